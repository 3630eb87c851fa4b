/-! ===== the tests of BranchNotes, Script ===== -/
def r_X5_isDesk (d : Int32) : Int32 := (if d < 0 then (0 : Int32) else (if (2 : Int32) ≤ d then (0 : Int32) else (1 : Int32)))
abbrev rX5_isDesk : Room := { frames := 0, cells := 0, slots := 0, locals := 0 }
theorem zn_X5_isDesk (d : Int32) : narrow .boolean (.int (r_X5_isDesk d)) = .int (r_X5_isDesk d) := by
  unfold r_X5_isDesk
  repeat' split
  all_goals rfl
set_option maxHeartbeats 4000000 in
set_option maxRecDepth 100000 in
theorem c_X5_isDesk (l : Launch) (D : va_G) (cy : Nat → ClassId)   (d : Int32) (sz : Nat)  : CI l yX5_isDesk wsX5_isDesk rX5_isDesk D cy [.int d] [] sz (r_X5_isDesk d) [] 0 0 := by
  refine st_i (ty := .boolean) (cc := cX5_isDesk) (maxL := 1) (by decide) rfl (zn_X5_isDesk d) (Nat.le_of_ble_eq_true rfl) ?_
  intro pp e s m below meth c A Q ls hx hb hts hown hml hlocks hsz hP hK hD hE hA hl hret
  subst hsz
  have hown : s.vm.findClass RX5 = some m.cls := hown
  have hl : lv_has ls 1 [(0, .int d)] := hl
  obtain ⟨H, hH⟩ : ∃ H, H = s.heap := ⟨_, rfl⟩
  rw [← hH] at hP ⊢
  have hS : va_S A s.heap H [] := by rw [hH]; exact va_S.rf
  obtain ⟨locs, hlo⟩ : ∃ locs : List Loc, locs = [] := ⟨_, rfl⟩
  rw [← hlo] at hS ⊢
  refine lv_iload_n hx hb dX5_isDesk_0 rfl (lv_at hl 0 rfl) ?_
  have J14_2 : ∀ (z_2 : Int32) (hz_2 : z_2 = (if d < 0 then (0 : Int32) else (if (2 : Int32) ≤ d then (0 : Int32) else (1 : Int32)))) (H : Heap) (locs : List Loc), va_P D vwCl [] H → va_D A [] → va_S A s.heap H locs → ∀ ls : Array Slot, lv_has ls 1 [(0, .int d)] → W pp l e rX5_isDesk s m ([.int d] : List Value).toArray below meth c H locs 0 0 Q (F0 m 14 ls [.int z_2]) := by
    intro z_2 hz_2 H locs hP hD hS ls hl
    subst hz_2
    have hr9 : (if d < 0 then (0 : Int32) else (if (2 : Int32) ≤ d then (0 : Int32) else (1 : Int32))) = (r_X5_isDesk d) := by rfl
    exact hret _ H locs _ ls hr9 hP hD hS dX5_isDesk_14
  refine lv_if_lt (tgt := 13) hx hb dX5_isDesk_1 (by decide) (fun c_1 => ?_) (fun c_1 => ?_)
  · refine lv_iconst (v := 0) hx hb dX5_isDesk_13 (by decide) ?_
    exact J14_2 (0 : Int32) (by simp only [if_pos c_1, if_true, if_false]) H locs hP hD hS ls (lv_sub hl [0] rfl)
  · refine lv_iload_n hx hb dX5_isDesk_4 rfl (lv_at hl 0 rfl) ?_
    refine lv_iconst (v := 2) hx hb dX5_isDesk_5 (by decide) ?_
    refine lv_icmp_ge (tgt := 13) hx hb dX5_isDesk_6 (by decide) (fun c_4 => ?_) (fun c_4 => ?_)
    · refine lv_iconst (v := 0) hx hb dX5_isDesk_13 (by decide) ?_
      exact J14_2 (0 : Int32) (by simp only [if_neg c_1, if_pos c_4, if_true, if_false]) H locs hP hD hS ls (lv_sub hl [0] rfl)
    · refine lv_iconst (v := 1) hx hb dX5_isDesk_9 (by decide) ?_
      refine lv_goto (tgt := 14) hx hb dX5_isDesk_10 (by decide) ?_
      exact J14_2 (1 : Int32) (by simp only [if_neg c_1, if_neg c_4, if_true, if_false]) H locs hP hD hS ls (lv_sub hl [0] rfl)

def r_X5_isPlace (d : Int32) : Int32 := (if d < 0 then (0 : Int32) else (if (26 : Int32) ≤ d then (0 : Int32) else (1 : Int32)))
abbrev rX5_isPlace : Room := { frames := 0, cells := 0, slots := 0, locals := 0 }
theorem zn_X5_isPlace (d : Int32) : narrow .boolean (.int (r_X5_isPlace d)) = .int (r_X5_isPlace d) := by
  unfold r_X5_isPlace
  repeat' split
  all_goals rfl
set_option maxHeartbeats 4000000 in
set_option maxRecDepth 100000 in
theorem c_X5_isPlace (l : Launch) (D : va_G) (cy : Nat → ClassId)   (d : Int32) (sz : Nat)  : CI l yX5_isPlace wsX5_isPlace rX5_isPlace D cy [.int d] [] sz (r_X5_isPlace d) [] 0 0 := by
  refine st_i (ty := .boolean) (cc := cX5_isPlace) (maxL := 1) (by decide) rfl (zn_X5_isPlace d) (Nat.le_of_ble_eq_true rfl) ?_
  intro pp e s m below meth c A Q ls hx hb hts hown hml hlocks hsz hP hK hD hE hA hl hret
  subst hsz
  have hown : s.vm.findClass RX5 = some m.cls := hown
  have hl : lv_has ls 1 [(0, .int d)] := hl
  obtain ⟨H, hH⟩ : ∃ H, H = s.heap := ⟨_, rfl⟩
  rw [← hH] at hP ⊢
  have hS : va_S A s.heap H [] := by rw [hH]; exact va_S.rf
  obtain ⟨locs, hlo⟩ : ∃ locs : List Loc, locs = [] := ⟨_, rfl⟩
  rw [← hlo] at hS ⊢
  refine lv_iload_n hx hb dX5_isPlace_0 rfl (lv_at hl 0 rfl) ?_
  have J15_2 : ∀ (z_2 : Int32) (hz_2 : z_2 = (if d < 0 then (0 : Int32) else (if (26 : Int32) ≤ d then (0 : Int32) else (1 : Int32)))) (H : Heap) (locs : List Loc), va_P D vwCl [] H → va_D A [] → va_S A s.heap H locs → ∀ ls : Array Slot, lv_has ls 1 [(0, .int d)] → W pp l e rX5_isPlace s m ([.int d] : List Value).toArray below meth c H locs 0 0 Q (F0 m 15 ls [.int z_2]) := by
    intro z_2 hz_2 H locs hP hD hS ls hl
    subst hz_2
    have hr9 : (if d < 0 then (0 : Int32) else (if (26 : Int32) ≤ d then (0 : Int32) else (1 : Int32))) = (r_X5_isPlace d) := by rfl
    exact hret _ H locs _ ls hr9 hP hD hS dX5_isPlace_15
  refine lv_if_lt (tgt := 14) hx hb dX5_isPlace_1 (by decide) (fun c_1 => ?_) (fun c_1 => ?_)
  · refine lv_iconst (v := 0) hx hb dX5_isPlace_14 (by decide) ?_
    exact J15_2 (0 : Int32) (by simp only [if_pos c_1, if_true, if_false]) H locs hP hD hS ls (lv_sub hl [0] rfl)
  · refine lv_iload_n hx hb dX5_isPlace_4 rfl (lv_at hl 0 rfl) ?_
    refine lv_bipush (v := 26) hx hb dX5_isPlace_5 (by decide) ?_
    refine lv_icmp_ge (tgt := 14) hx hb dX5_isPlace_7 (by decide) (fun c_4 => ?_) (fun c_4 => ?_)
    · refine lv_iconst (v := 0) hx hb dX5_isPlace_14 (by decide) ?_
      exact J15_2 (0 : Int32) (by simp only [if_neg c_1, if_pos c_4, if_true, if_false]) H locs hP hD hS ls (lv_sub hl [0] rfl)
    · refine lv_iconst (v := 1) hx hb dX5_isPlace_10 (by decide) ?_
      refine lv_goto (tgt := 15) hx hb dX5_isPlace_11 (by decide) ?_
      exact J15_2 (1 : Int32) (by simp only [if_neg c_1, if_neg c_4, if_true, if_false]) H locs hP hD hS ls (lv_sub hl [0] rfl)

def r_X5_isDeskSetting (what : Int32) (val2 : Int32) : Int32 := (if what < 0 then (0 : Int32) else (if (3 : Int32) ≤ what then (0 : Int32) else (if val2 < 0 then (0 : Int32) else (if (dmost what.toNatClampNeg) < val2 then (0 : Int32) else (1 : Int32)))))
abbrev rX5_isDeskSetting : Room := { frames := 0, cells := 0, slots := 0, locals := 0 }
theorem zn_X5_isDeskSetting (what : Int32) (val2 : Int32) : narrow .boolean (.int (r_X5_isDeskSetting what val2)) = .int (r_X5_isDeskSetting what val2) := by
  unfold r_X5_isDeskSetting
  repeat' split
  all_goals rfl
set_option maxHeartbeats 4000000 in
set_option maxRecDepth 100000 in
theorem c_X5_isDeskSetting (l : Launch) (D : va_G) (cy : Nat → ClassId)   (what : Int32) (val2 : Int32) (sz : Nat)  : CI l yX5_isDeskSetting wsX5_isDeskSetting rX5_isDeskSetting D cy [.int what, .int val2] [] sz (r_X5_isDeskSetting what val2) [] 0 0 := by
  refine st_i (ty := .boolean) (cc := cX5_isDeskSetting) (maxL := 2) (by decide) rfl (zn_X5_isDeskSetting what val2) (Nat.le_of_ble_eq_true rfl) ?_
  intro pp e s m below meth c A Q ls hx hb hts hown hml hlocks hsz hP hK hD hE hA hl hret
  subst hsz
  have hown : s.vm.findClass RX5 = some m.cls := hown
  have hl : lv_has ls 2 [(0, .int what), (1, .int val2)] := hl
  obtain ⟨H, hH⟩ : ∃ H, H = s.heap := ⟨_, rfl⟩
  rw [← hH] at hP ⊢
  have hS : va_S A s.heap H [] := by rw [hH]; exact va_S.rf
  obtain ⟨locs, hlo⟩ : ∃ locs : List Loc, locs = [] := ⟨_, rfl⟩
  rw [← hlo] at hS ⊢
  refine lv_iload_n hx hb dX5_isDeskSetting_0 rfl (lv_at hl 0 rfl) ?_
  have J27_2 : ∀ (z_2 : Int32) (hz_2 : z_2 = (if what < 0 then (0 : Int32) else (if (3 : Int32) ≤ what then (0 : Int32) else (if val2 < 0 then (0 : Int32) else (if (dmost what.toNatClampNeg) < val2 then (0 : Int32) else (1 : Int32)))))) (H : Heap) (locs : List Loc), va_P D vwCl [] H → va_D A [] → va_S A s.heap H locs → ∀ ls : Array Slot, lv_has ls 2 [(0, .int what), (1, .int val2)] → W pp l e rX5_isDeskSetting s m ([.int what, .int val2] : List Value).toArray below meth c H locs 0 0 Q (F0 m 27 ls [.int z_2]) := by
    intro z_2 hz_2 H locs hP hD hS ls hl
    subst hz_2
    have hr9 : (if what < 0 then (0 : Int32) else (if (3 : Int32) ≤ what then (0 : Int32) else (if val2 < 0 then (0 : Int32) else (if (dmost what.toNatClampNeg) < val2 then (0 : Int32) else (1 : Int32))))) = (r_X5_isDeskSetting what val2) := by rfl
    exact hret _ H locs _ ls hr9 hP hD hS dX5_isDeskSetting_27
  refine lv_if_lt (tgt := 26) hx hb dX5_isDeskSetting_1 (by decide) (fun c_1 => ?_) (fun c_1 => ?_)
  · refine lv_iconst (v := 0) hx hb dX5_isDeskSetting_26 (by decide) ?_
    exact J27_2 (0 : Int32) (by simp only [if_pos c_1, if_true, if_false]) H locs hP hD hS ls (lv_sub hl [0, 1] rfl)
  · refine lv_iload_n hx hb dX5_isDeskSetting_4 rfl (lv_at hl 0 rfl) ?_
    refine lv_iconst (v := 3) hx hb dX5_isDeskSetting_5 (by decide) ?_
    refine lv_icmp_ge (tgt := 26) hx hb dX5_isDeskSetting_6 (by decide) (fun c_4 => ?_) (fun c_4 => ?_)
    · refine lv_iconst (v := 0) hx hb dX5_isDeskSetting_26 (by decide) ?_
      exact J27_2 (0 : Int32) (by simp only [if_neg c_1, if_pos c_4, if_true, if_false]) H locs hP hD hS ls (lv_sub hl [0, 1] rfl)
    · refine lv_iload_n hx hb dX5_isDeskSetting_9 rfl (lv_at hl 1 rfl) ?_
      refine lv_if_lt (tgt := 26) hx hb dX5_isDeskSetting_10 (by decide) (fun c_5 => ?_) (fun c_5 => ?_)
      · refine lv_iconst (v := 0) hx hb dX5_isDeskSetting_26 (by decide) ?_
        exact J27_2 (0 : Int32) (by simp only [if_neg c_1, if_neg c_4, if_pos c_5, if_true, if_false]) H locs hP hD hS ls (lv_sub hl [0, 1] rfl)
      · refine lv_iload_n hx hb dX5_isDeskSetting_13 rfl (lv_at hl 1 rfl) ?_
        obtain ⟨t_6, t_6z, t_6v⟩ := hE.2.2.1
        refine va_gets hx hb t_6z hS hown (hts _ (List.mem_of_getElem? (i := 1) rfl)) (fun _ h9 => h9) dX5_isDeskSetting_14 ?_
        refine lv_iload_n hx hb dX5_isDeskSetting_17 rfl (lv_at hl 0 rfl) ?_
        refine va_ti (v := .int (dmost what.toNatClampNeg)) hx hb t_6v hS (in_nle c_1 c_4 rfl) rfl dX5_isDeskSetting_18 ?_
        refine lv_icmp_gt (tgt := 26) hx hb dX5_isDeskSetting_19 (by decide) (fun c_7 => ?_) (fun c_7 => ?_)
        · refine lv_iconst (v := 0) hx hb dX5_isDeskSetting_26 (by decide) ?_
          exact J27_2 (0 : Int32) (by simp only [if_neg c_1, if_neg c_4, if_neg c_5, if_pos c_7, if_true, if_false]) H locs hP hD hS ls (lv_sub hl [0, 1] rfl)
        · refine lv_iconst (v := 1) hx hb dX5_isDeskSetting_22 (by decide) ?_
          refine lv_goto (tgt := 27) hx hb dX5_isDeskSetting_23 (by decide) ?_
          exact J27_2 (1 : Int32) (by simp only [if_neg c_1, if_neg c_4, if_neg c_5, if_neg c_7, if_true, if_false]) H locs hP hD hS ls (lv_sub hl [0, 1] rfl)

def r_X5_isCommonSetting (what : Int32) (val2 : Int32) : Int32 := (if what < 0 then (0 : Int32) else (if (3 : Int32) ≤ what then (0 : Int32) else (if val2 < (cleast what.toNatClampNeg) then (0 : Int32) else (if (cmost what.toNatClampNeg) < val2 then (0 : Int32) else (1 : Int32)))))
abbrev rX5_isCommonSetting : Room := { frames := 0, cells := 0, slots := 0, locals := 0 }
theorem zn_X5_isCommonSetting (what : Int32) (val2 : Int32) : narrow .boolean (.int (r_X5_isCommonSetting what val2)) = .int (r_X5_isCommonSetting what val2) := by
  unfold r_X5_isCommonSetting
  repeat' split
  all_goals rfl
set_option maxHeartbeats 4000000 in
set_option maxRecDepth 100000 in
theorem c_X5_isCommonSetting (l : Launch) (D : va_G) (cy : Nat → ClassId)   (what : Int32) (val2 : Int32) (sz : Nat)  : CI l yX5_isCommonSetting wsX5_isCommonSetting rX5_isCommonSetting D cy [.int what, .int val2] [] sz (r_X5_isCommonSetting what val2) [] 0 0 := by
  refine st_i (ty := .boolean) (cc := cX5_isCommonSetting) (maxL := 2) (by decide) rfl (zn_X5_isCommonSetting what val2) (Nat.le_of_ble_eq_true rfl) ?_
  intro pp e s m below meth c A Q ls hx hb hts hown hml hlocks hsz hP hK hD hE hA hl hret
  subst hsz
  have hown : s.vm.findClass RX5 = some m.cls := hown
  have hl : lv_has ls 2 [(0, .int what), (1, .int val2)] := hl
  obtain ⟨H, hH⟩ : ∃ H, H = s.heap := ⟨_, rfl⟩
  rw [← hH] at hP ⊢
  have hS : va_S A s.heap H [] := by rw [hH]; exact va_S.rf
  obtain ⟨locs, hlo⟩ : ∃ locs : List Loc, locs = [] := ⟨_, rfl⟩
  rw [← hlo] at hS ⊢
  refine lv_iload_n hx hb dX5_isCommonSetting_0 rfl (lv_at hl 0 rfl) ?_
  have J32_2 : ∀ (z_2 : Int32) (hz_2 : z_2 = (if what < 0 then (0 : Int32) else (if (3 : Int32) ≤ what then (0 : Int32) else (if val2 < (cleast what.toNatClampNeg) then (0 : Int32) else (if (cmost what.toNatClampNeg) < val2 then (0 : Int32) else (1 : Int32)))))) (H : Heap) (locs : List Loc), va_P D vwCl [] H → va_D A [] → va_S A s.heap H locs → ∀ ls : Array Slot, lv_has ls 2 [(0, .int what), (1, .int val2)] → W pp l e rX5_isCommonSetting s m ([.int what, .int val2] : List Value).toArray below meth c H locs 0 0 Q (F0 m 32 ls [.int z_2]) := by
    intro z_2 hz_2 H locs hP hD hS ls hl
    subst hz_2
    have hr9 : (if what < 0 then (0 : Int32) else (if (3 : Int32) ≤ what then (0 : Int32) else (if val2 < (cleast what.toNatClampNeg) then (0 : Int32) else (if (cmost what.toNatClampNeg) < val2 then (0 : Int32) else (1 : Int32))))) = (r_X5_isCommonSetting what val2) := by rfl
    exact hret _ H locs _ ls hr9 hP hD hS dX5_isCommonSetting_32
  refine lv_if_lt (tgt := 31) hx hb dX5_isCommonSetting_1 (by decide) (fun c_1 => ?_) (fun c_1 => ?_)
  · refine lv_iconst (v := 0) hx hb dX5_isCommonSetting_31 (by decide) ?_
    exact J32_2 (0 : Int32) (by simp only [if_pos c_1, if_true, if_false]) H locs hP hD hS ls (lv_sub hl [0, 1] rfl)
  · refine lv_iload_n hx hb dX5_isCommonSetting_4 rfl (lv_at hl 0 rfl) ?_
    refine lv_iconst (v := 3) hx hb dX5_isCommonSetting_5 (by decide) ?_
    refine lv_icmp_ge (tgt := 31) hx hb dX5_isCommonSetting_6 (by decide) (fun c_4 => ?_) (fun c_4 => ?_)
    · refine lv_iconst (v := 0) hx hb dX5_isCommonSetting_31 (by decide) ?_
      exact J32_2 (0 : Int32) (by simp only [if_neg c_1, if_pos c_4, if_true, if_false]) H locs hP hD hS ls (lv_sub hl [0, 1] rfl)
    · refine lv_iload_n hx hb dX5_isCommonSetting_9 rfl (lv_at hl 1 rfl) ?_
      obtain ⟨t_5, t_5z, t_5v⟩ := hE.2.2.2.1
      refine va_gets hx hb t_5z hS hown (hts _ (List.mem_of_getElem? (i := 1) rfl)) (fun _ h9 => h9) dX5_isCommonSetting_10 ?_
      refine lv_iload_n hx hb dX5_isCommonSetting_13 rfl (lv_at hl 0 rfl) ?_
      refine va_ti (v := .int (cleast what.toNatClampNeg)) hx hb t_5v hS (in_nle c_1 c_4 rfl) rfl dX5_isCommonSetting_14 ?_
      refine lv_icmp_lt (tgt := 31) hx hb dX5_isCommonSetting_15 (by decide) (fun c_6 => ?_) (fun c_6 => ?_)
      · refine lv_iconst (v := 0) hx hb dX5_isCommonSetting_31 (by decide) ?_
        exact J32_2 (0 : Int32) (by simp only [if_neg c_1, if_neg c_4, if_pos c_6, if_true, if_false]) H locs hP hD hS ls (lv_sub hl [0, 1] rfl)
      · refine lv_iload_n hx hb dX5_isCommonSetting_18 rfl (lv_at hl 1 rfl) ?_
        obtain ⟨t_7, t_7z, t_7v⟩ := hE.2.2.2.2.1
        refine va_gets hx hb t_7z hS hown (hts _ (List.mem_of_getElem? (i := 2) rfl)) (fun _ h9 => h9) dX5_isCommonSetting_19 ?_
        refine lv_iload_n hx hb dX5_isCommonSetting_22 rfl (lv_at hl 0 rfl) ?_
        refine va_ti (v := .int (cmost what.toNatClampNeg)) hx hb t_7v hS (in_nle c_1 c_4 rfl) rfl dX5_isCommonSetting_23 ?_
        refine lv_icmp_gt (tgt := 31) hx hb dX5_isCommonSetting_24 (by decide) (fun c_8 => ?_) (fun c_8 => ?_)
        · refine lv_iconst (v := 0) hx hb dX5_isCommonSetting_31 (by decide) ?_
          exact J32_2 (0 : Int32) (by simp only [if_neg c_1, if_neg c_4, if_neg c_6, if_pos c_8, if_true, if_false]) H locs hP hD hS ls (lv_sub hl [0, 1] rfl)
        · refine lv_iconst (v := 1) hx hb dX5_isCommonSetting_27 (by decide) ?_
          refine lv_goto (tgt := 32) hx hb dX5_isCommonSetting_28 (by decide) ?_
          exact J32_2 (1 : Int32) (by simp only [if_neg c_1, if_neg c_4, if_neg c_6, if_neg c_8, if_true, if_false]) H locs hP hD hS ls (lv_sub hl [0, 1] rfl)

theorem isDesk_of {d : Int32} (h : ¬ r_X5_isDesk d = 0) : d = 0 ∨ d = 1 := by
  unfold r_X5_isDesk at h
  split at h
  · exact absurd rfl h
  · rename_i h1
    split at h
    · exact absurd rfl h
    · rename_i h2
      have e0 : ¬ d.toInt < 0 := fun q => h1 ((fa_lt' d 0).mpr q)
      have e1 : ¬ 2 ≤ d.toInt := fun q => h2 ((fa_le' 2 d).mpr q)
      have h3 : d.toInt = 0 ∨ d.toInt = 1 := by omega
      rcases h3 with h3 | h3
      · exact Or.inl (Int32.toInt_inj.mp h3)
      · exact Or.inr (Int32.toInt_inj.mp h3)
theorem isPlace_of {d : Int32} (h : ¬ r_X5_isPlace d = 0) : vp_in d 26 := by
  unfold r_X5_isPlace at h
  split at h
  · exact absurd rfl h
  · rename_i h1
    split at h
    · exact absurd rfl h
    · rename_i h2
      exact in_nle h1 h2 rfl
theorem isNote_of {v : SV} {i : Int32} (h : ¬ r_X3_isNote v i = 0) (hs : szok (v.1 0 0)) : vp_in i 64 := by
  unfold r_X3_isNote at h
  split at h
  · exact absurd rfl h
  · rename_i h1
    split at h
    · exact absurd rfl h
    · rename_i h2
      obtain ⟨k, a1, a2, a3⟩ := hs
      rw [a3] at h2
      have hk : k = 2 ∨ k = 3 ∨ k = 4 ∨ k = 5 ∨ k = 6 := by omega
      rcases hk with rfl | rfl | rfl | rfl | rfl
      · exact vp_mono (in_nle (N := 4) h1 h2 rfl) (by decide)
      · exact vp_mono (in_nle (N := 8) h1 h2 rfl) (by decide)
      · exact vp_mono (in_nle (N := 16) h1 h2 rfl) (by decide)
      · exact vp_mono (in_nle (N := 32) h1 h2 rfl) (by decide)
      · exact in_nle (N := 64) h1 h2 rfl
theorem dset_of {what val2 : Int32} (h : ¬ r_X5_isDeskSetting what val2 = 0) : vp_in what 3 := by
  unfold r_X5_isDeskSetting at h
  split at h
  · exact absurd rfl h
  · rename_i h1
    split at h
    · exact absurd rfl h
    · rename_i h2
      exact in_nle h1 h2 rfl
theorem cset_of {what val2 : Int32} (h : ¬ r_X5_isCommonSetting what val2 = 0) : vp_in what 3 := by
  unfold r_X5_isCommonSetting at h
  split at h
  · exact absurd rfl h
  · rename_i h1
    split at h
    · exact absurd rfl h
    · rename_i h2
      exact in_nle h1 h2 rfl

def r_X2_changeDesk (v : SV) (d : Int32) (what : Int32) (val2 : Int32) : Int32 := (if (r_X5_isDesk d) = 0 then (0 : Int32) else (if (r_X5_isDeskSetting what val2) = 0 then (0 : Int32) else (1 : Int32)))
def w_X2_changeDesk (v : SV) (d : Int32) (what : Int32) (val2 : Int32) : SV := (if (r_X5_isDesk d) = 0 then v else (if (r_X5_isDeskSetting what val2) = 0 then v else (w_X3_changeDesk v d what val2)))
abbrev rX2_changeDesk : Room := { frames := 4, cells := 0, slots := 0, locals := 88 }
theorem zn_X2_changeDesk (v : SV) (d : Int32) (what : Int32) (val2 : Int32) : narrow .boolean (.int (r_X2_changeDesk v d what val2)) = .int (r_X2_changeDesk v d what val2) := by
  unfold r_X2_changeDesk
  repeat' split
  all_goals rfl
set_option maxHeartbeats 4000000 in
set_option maxRecDepth 100000 in
theorem c_X2_changeDesk (l : Launch) (D : va_G) (cy : Nat → ClassId) (a : Nat → Nat → Nat) (v : SV) (d : Int32) (what : Int32) (val2 : Int32) (sz : Nat)  : CI l yX2_changeDesk wsX2_changeDesk rX2_changeDesk D cy [.ref (a 0 0), .int d, .int what, .int val2] (cS cy a v) sz (r_X2_changeDesk v d what val2) (cS cy a (w_X2_changeDesk v d what val2)) 0 0 := by
  refine st_i (ty := .boolean) (cc := cX2_changeDesk) (maxL := 4) (by decide) rfl (zn_X2_changeDesk v d what val2) (Nat.le_of_ble_eq_true rfl) ?_
  intro pp e s m below meth c A Q ls hx hb hts hown hml hlocks hsz hP hK hD hE hA hl hret
  subst hsz
  have hown : s.vm.findClass RX2 = some m.cls := hown
  have hl : lv_has ls 4 [(0, .ref (a 0 0)), (1, .int d), (2, .int what), (3, .int val2)] := hl
  obtain ⟨H, hH⟩ : ∃ H, H = s.heap := ⟨_, rfl⟩
  rw [← hH] at hP ⊢
  have hS : va_S A s.heap H [] := by rw [hH]; exact va_S.rf
  obtain ⟨locs, hlo⟩ : ∃ locs : List Loc, locs = [] := ⟨_, rfl⟩
  rw [← hlo] at hS ⊢
  refine lv_iload_n hx hb dX2_changeDesk_0 rfl (lv_at hl 1 rfl) ?_
  refine cl_i (va_runSN (As := [.int d]) (rest := []) ⟨hx, hb, hml, hown, hts⟩ (c_X5_isDesk l D cy d H.size) ⟨va_cnB 1 hts gX2_changeDesk_X5_isDesk_n36 rfl rfl rfl hE.2.2.2.2.2.2.2.2.2.2.1 (hts _ (List.mem_of_getElem? (i := 2) rfl)) (by decide +kernel) ⟨Nat.le_of_ble_eq_true rfl, Nat.le_of_ble_eq_true rfl⟩, (hts _ (List.mem_of_getElem? (i := 1) rfl)), trivial⟩ ⟨blU, preU hP hD (List.Perm.refl _) hK hE hS hA⟩ rfl rfl hl.1 rfl (lv_room (Nat.le_of_ble_eq_true rfl)) dX2_changeDesk_1 ⟨Nat.le_of_ble_eq_true rfl, Nat.le_of_ble_eq_true rfl⟩) hP hD (List.Perm.refl _) hS hA (fun H locs hP hD hS => ?_)
  have hP : va_P D vwCl (cS cy a v) H := hP
  have hD : va_D A (cS cy a v) := hD
  refine lv_if_eq (tgt := 15) hx hb dX2_changeDesk_4 (by decide) (fun c_1 => ?_) (fun c_1 => ?_)
  · refine lv_iconst (v := 0) hx hb dX2_changeDesk_15 (by decide) ?_
    have hr9 : (0 : Int32) = (r_X2_changeDesk v d what val2) := by unfold r_X2_changeDesk; simp only [if_pos c_1, if_true, if_false]
    have hw9 : (w_X2_changeDesk v d what val2) = v := by unfold w_X2_changeDesk; simp only [if_pos c_1, if_true, if_false]
    exact hret _ H locs _ ls hr9 (by rw [hw9]; exact hP) (by rw [hw9]; exact hD) hS dX2_changeDesk_16
  · refine lv_iload_n hx hb dX2_changeDesk_7 rfl (lv_at hl 2 rfl) ?_
    refine lv_iload_n hx hb dX2_changeDesk_8 rfl (lv_at hl 3 rfl) ?_
    refine cl_i (va_runSN (As := [.int what, .int val2]) (rest := []) ⟨hx, hb, hml, hown, hts⟩ (c_X5_isDeskSetting l D cy what val2 H.size) ⟨va_cnB 2 hts gX2_changeDesk_X5_isDeskSetting_n65 rfl rfl rfl hE.2.2.2.2.2.2.2.2.2.2.2.1 (hts _ (List.mem_of_getElem? (i := 2) rfl)) (by decide +kernel) ⟨Nat.le_of_ble_eq_true rfl, Nat.le_of_ble_eq_true rfl⟩, (hts _ (List.mem_of_getElem? (i := 4) rfl)), trivial⟩ ⟨blU, preU hP hD (List.Perm.refl _) hK hE hS hA⟩ rfl rfl hl.1 rfl (lv_room (Nat.le_of_ble_eq_true rfl)) dX2_changeDesk_9 ⟨Nat.le_of_ble_eq_true rfl, Nat.le_of_ble_eq_true rfl⟩) hP hD (List.Perm.refl _) hS hA (fun H locs hP hD hS => ?_)
    have hP : va_P D vwCl (cS cy a v) H := hP
    have hD : va_D A (cS cy a v) := hD
    refine lv_if_ne (tgt := 17) hx hb dX2_changeDesk_12 (by decide) (fun c_2 => ?_) (fun c_2 => ?_)
    · refine lv_aload_n hx hb dX2_changeDesk_17 rfl (lv_at hl 0 rfl) ?_
      refine lv_iload_n hx hb dX2_changeDesk_18 rfl (lv_at hl 1 rfl) ?_
      refine lv_iload_n hx hb dX2_changeDesk_19 rfl (lv_at hl 2 rfl) ?_
      refine lv_iload_n hx hb dX2_changeDesk_20 rfl (lv_at hl 3 rfl) ?_
      refine cl_n (va_runV (As := [.int d, .int what, .int val2]) (rest := []) ⟨hx, hb, hml, hown, hts⟩ (c_X3_changeDesk l D cy a v d what val2 H.size (isDesk_of c_1) (dset_of c_2)) (cwV 3 hts gX2_changeDesk_X3_changeDesk rfl rfl rfl (by decide +kernel) ⟨Nat.le_of_ble_eq_true rfl, Nat.le_of_ble_eq_true rfl⟩) ⟨blU, va_recv hK hP (ci := 2) (q0 := 0) rfl rfl, preU hP hD (pmI _) hK hE hS hA⟩ rfl rfl hl.1 rfl (lv_room (Nat.le_of_ble_eq_true rfl)) dX2_changeDesk_21 ⟨Nat.le_of_ble_eq_true rfl, Nat.le_of_ble_eq_true rfl⟩) hP hD (pmI _) hS hA (fun H locs hP hD hS => ?_)
      have hP : va_P D vwCl (cS cy a (w_X3_changeDesk v d what val2)) H := vP_perm hP (pmI _).symm
      have hD : va_D A (cS cy a (w_X3_changeDesk v d what val2)) := vD_perm hD (pmI _).symm
      refine lv_iconst (v := 1) hx hb dX2_changeDesk_24 (by decide) ?_
      have hr9 : (1 : Int32) = (r_X2_changeDesk v d what val2) := by unfold r_X2_changeDesk; simp only [if_neg c_1, if_neg c_2, if_true, if_false]
      have hw9 : (w_X2_changeDesk v d what val2) = (w_X3_changeDesk v d what val2) := by unfold w_X2_changeDesk; simp only [if_neg c_1, if_neg c_2, if_true, if_false]
      exact hret _ H locs _ ls hr9 (by rw [hw9]; exact hP) (by rw [hw9]; exact hD) hS dX2_changeDesk_25
    · refine lv_iconst (v := 0) hx hb dX2_changeDesk_15 (by decide) ?_
      have hr9 : (0 : Int32) = (r_X2_changeDesk v d what val2) := by unfold r_X2_changeDesk; simp only [if_neg c_1, if_pos c_2, if_true, if_false]
      have hw9 : (w_X2_changeDesk v d what val2) = v := by unfold w_X2_changeDesk; simp only [if_neg c_1, if_pos c_2, if_true, if_false]
      exact hret _ H locs _ ls hr9 (by rw [hw9]; exact hP) (by rw [hw9]; exact hD) hS dX2_changeDesk_16

def r_X2_changeBoth (v : SV) (what : Int32) (val2 : Int32) : Int32 := (if (r_X5_isCommonSetting what val2) = 0 then (0 : Int32) else (1 : Int32))
def w_X2_changeBoth (v : SV) (what : Int32) (val2 : Int32) : SV := (if (r_X5_isCommonSetting what val2) = 0 then v else (w_X3_changeBoth v what val2))
abbrev rX2_changeBoth : Room := { frames := 4, cells := 0, slots := 0, locals := 87 }
theorem zn_X2_changeBoth (v : SV) (what : Int32) (val2 : Int32) : narrow .boolean (.int (r_X2_changeBoth v what val2)) = .int (r_X2_changeBoth v what val2) := by
  unfold r_X2_changeBoth
  repeat' split
  all_goals rfl
set_option maxHeartbeats 4000000 in
set_option maxRecDepth 100000 in
theorem c_X2_changeBoth (l : Launch) (D : va_G) (cy : Nat → ClassId) (a : Nat → Nat → Nat) (v : SV) (what : Int32) (val2 : Int32) (sz : Nat)  : CI l yX2_changeBoth wsX2_changeBoth rX2_changeBoth D cy [.ref (a 0 0), .int what, .int val2] (cS cy a v) sz (r_X2_changeBoth v what val2) (cS cy a (w_X2_changeBoth v what val2)) 0 0 := by
  refine st_i (ty := .boolean) (cc := cX2_changeBoth) (maxL := 3) (by decide) rfl (zn_X2_changeBoth v what val2) (Nat.le_of_ble_eq_true rfl) ?_
  intro pp e s m below meth c A Q ls hx hb hts hown hml hlocks hsz hP hK hD hE hA hl hret
  subst hsz
  have hown : s.vm.findClass RX2 = some m.cls := hown
  have hl : lv_has ls 3 [(0, .ref (a 0 0)), (1, .int what), (2, .int val2)] := hl
  obtain ⟨H, hH⟩ : ∃ H, H = s.heap := ⟨_, rfl⟩
  rw [← hH] at hP ⊢
  have hS : va_S A s.heap H [] := by rw [hH]; exact va_S.rf
  obtain ⟨locs, hlo⟩ : ∃ locs : List Loc, locs = [] := ⟨_, rfl⟩
  rw [← hlo] at hS ⊢
  refine lv_iload_n hx hb dX2_changeBoth_0 rfl (lv_at hl 1 rfl) ?_
  refine lv_iload_n hx hb dX2_changeBoth_1 rfl (lv_at hl 2 rfl) ?_
  refine cl_i (va_runSN (As := [.int what, .int val2]) (rest := []) ⟨hx, hb, hml, hown, hts⟩ (c_X5_isCommonSetting l D cy what val2 H.size) ⟨va_cnB 2 hts gX2_changeBoth_X5_isCommonSetting_n72 rfl rfl rfl hE.2.2.2.2.2.2.2.2.2.2.2.2.1 (hts _ (List.mem_of_getElem? (i := 2) rfl)) (by decide +kernel) ⟨Nat.le_of_ble_eq_true rfl, Nat.le_of_ble_eq_true rfl⟩, (hts _ (List.mem_of_getElem? (i := 1) rfl)), trivial⟩ ⟨blU, preU hP hD (List.Perm.refl _) hK hE hS hA⟩ rfl rfl hl.1 rfl (lv_room (Nat.le_of_ble_eq_true rfl)) dX2_changeBoth_2 ⟨Nat.le_of_ble_eq_true rfl, Nat.le_of_ble_eq_true rfl⟩) hP hD (List.Perm.refl _) hS hA (fun H locs hP hD hS => ?_)
  have hP : va_P D vwCl (cS cy a v) H := hP
  have hD : va_D A (cS cy a v) := hD
  refine lv_if_ne (tgt := 10) hx hb dX2_changeBoth_5 (by decide) (fun c_1 => ?_) (fun c_1 => ?_)
  · refine lv_aload_n hx hb dX2_changeBoth_10 rfl (lv_at hl 0 rfl) ?_
    refine lv_iload_n hx hb dX2_changeBoth_11 rfl (lv_at hl 1 rfl) ?_
    refine lv_iload_n hx hb dX2_changeBoth_12 rfl (lv_at hl 2 rfl) ?_
    refine cl_n (va_runV (As := [.int what, .int val2]) (rest := []) ⟨hx, hb, hml, hown, hts⟩ (c_X3_changeBoth l D cy a v what val2 H.size (cset_of c_1)) (cwV 2 hts gX2_changeBoth_X3_changeBoth rfl rfl rfl (by decide +kernel) ⟨Nat.le_of_ble_eq_true rfl, Nat.le_of_ble_eq_true rfl⟩) ⟨blU, va_recv hK hP (ci := 2) (q0 := 0) rfl rfl, preU hP hD (pmI _) hK hE hS hA⟩ rfl rfl hl.1 rfl (lv_room (Nat.le_of_ble_eq_true rfl)) dX2_changeBoth_13 ⟨Nat.le_of_ble_eq_true rfl, Nat.le_of_ble_eq_true rfl⟩) hP hD (pmI _) hS hA (fun H locs hP hD hS => ?_)
    have hP : va_P D vwCl (cS cy a (w_X3_changeBoth v what val2)) H := vP_perm hP (pmI _).symm
    have hD : va_D A (cS cy a (w_X3_changeBoth v what val2)) := vD_perm hD (pmI _).symm
    refine lv_iconst (v := 1) hx hb dX2_changeBoth_16 (by decide) ?_
    have hr9 : (1 : Int32) = (r_X2_changeBoth v what val2) := by unfold r_X2_changeBoth; simp only [if_neg c_1, if_true, if_false]
    have hw9 : (w_X2_changeBoth v what val2) = (w_X3_changeBoth v what val2) := by unfold w_X2_changeBoth; simp only [if_neg c_1, if_true, if_false]
    exact hret _ H locs _ ls hr9 (by rw [hw9]; exact hP) (by rw [hw9]; exact hD) hS dX2_changeBoth_17
  · refine lv_iconst (v := 0) hx hb dX2_changeBoth_8 (by decide) ?_
    have hr9 : (0 : Int32) = (r_X2_changeBoth v what val2) := by unfold r_X2_changeBoth; simp only [if_pos c_1, if_true, if_false]
    have hw9 : (w_X2_changeBoth v what val2) = v := by unfold w_X2_changeBoth; simp only [if_pos c_1, if_true, if_false]
    exact hret _ H locs _ ls hr9 (by rw [hw9]; exact hP) (by rw [hw9]; exact hD) hS dX2_changeBoth_9

def r_X2_forgetAll (v : SV)  : Int32 := (1 : Int32)
def w_X2_forgetAll (v : SV)  : SV := (w_X3_beginAnew v)
abbrev rX2_forgetAll : Room := { frames := 3, cells := 0, slots := 0, locals := 65 }
theorem zn_X2_forgetAll (v : SV)  : narrow .boolean (.int (r_X2_forgetAll v)) = .int (r_X2_forgetAll v) := by
  unfold r_X2_forgetAll
  repeat' split
  all_goals rfl
set_option maxHeartbeats 4000000 in
set_option maxRecDepth 100000 in
theorem c_X2_forgetAll (l : Launch) (D : va_G) (cy : Nat → ClassId) (a : Nat → Nat → Nat) (v : SV)  (sz : Nat)  : CI l yX2_forgetAll wsX2_forgetAll rX2_forgetAll D cy [.ref (a 0 0)] (cS cy a v) sz (r_X2_forgetAll v) (cS cy a (w_X2_forgetAll v)) 0 0 := by
  refine st_i (ty := .boolean) (cc := cX2_forgetAll) (maxL := 1) (by decide) rfl (zn_X2_forgetAll v) (Nat.le_of_ble_eq_true rfl) ?_
  intro pp e s m below meth c A Q ls hx hb hts hown hml hlocks hsz hP hK hD hE hA hl hret
  subst hsz
  have hown : s.vm.findClass RX2 = some m.cls := hown
  have hl : lv_has ls 1 [(0, .ref (a 0 0))] := hl
  obtain ⟨H, hH⟩ : ∃ H, H = s.heap := ⟨_, rfl⟩
  rw [← hH] at hP ⊢
  have hS : va_S A s.heap H [] := by rw [hH]; exact va_S.rf
  obtain ⟨locs, hlo⟩ : ∃ locs : List Loc, locs = [] := ⟨_, rfl⟩
  rw [← hlo] at hS ⊢
  refine lv_aload_n hx hb dX2_forgetAll_0 rfl (lv_at hl 0 rfl) ?_
  refine cl_n (va_runV (As := []) (rest := []) ⟨hx, hb, hml, hown, hts⟩ (c_X3_beginAnew l D cy a v H.size) (cwV 0 hts gX2_forgetAll_X3_beginAnew rfl rfl rfl (by decide +kernel) ⟨Nat.le_of_ble_eq_true rfl, Nat.le_of_ble_eq_true rfl⟩) ⟨blU, va_recv hK hP (ci := 2) (q0 := 0) rfl rfl, preU hP hD (pmI _) hK hE hS hA⟩ rfl rfl hl.1 rfl (lv_room (Nat.le_of_ble_eq_true rfl)) dX2_forgetAll_1 ⟨Nat.le_of_ble_eq_true rfl, Nat.le_of_ble_eq_true rfl⟩) hP hD (pmI _) hS hA (fun H locs hP hD hS => ?_)
  have hP : va_P D vwCl (cS cy a (w_X3_beginAnew v)) H := vP_perm hP (pmI _).symm
  have hD : va_D A (cS cy a (w_X3_beginAnew v)) := vD_perm hD (pmI _).symm
  refine lv_iconst (v := 1) hx hb dX2_forgetAll_4 (by decide) ?_
  have hr9 : (1 : Int32) = (r_X2_forgetAll v) := by rfl
  have hw9 : (w_X2_forgetAll v) = (w_X3_beginAnew v) := by rfl
  exact hret _ H locs _ ls hr9 (by rw [hw9]; exact hP) (by rw [hw9]; exact hD) hS dX2_forgetAll_5

def r_X2_makeStrength (v : SV) (d : Int32) (i : Int32) (val2 : Int32) : Int32 := (if (r_X5_isDesk d) = 0 then (0 : Int32) else (if (r_X3_isNote v i) = 0 then (0 : Int32) else (if (r_X3_isStrength v val2) = 0 then (0 : Int32) else (if d = 0 then (1 : Int32) else (1 : Int32)))))
def w_X2_makeStrength (v : SV) (d : Int32) (i : Int32) (val2 : Int32) : SV := (if (r_X5_isDesk d) = 0 then v else (if (r_X3_isNote v i) = 0 then v else (if (r_X3_isStrength v val2) = 0 then v else (if d = 0 then (v.1, (mkD (v.2.1 0) (upd (v.2.1 1) i.toNatClampNeg val2) (v.2.1 2) (v.2.1 3) (v.2.1 4) (v.2.1 5) (v.2.1 6 0) (v.2.1 7 0)), v.2.2) else (v.1, v.2.1, (mkD (v.2.2 0) (upd (v.2.2 1) i.toNatClampNeg val2) (v.2.2 2) (v.2.2 3) (v.2.2 4) (v.2.2 5) (v.2.2 6 0) (v.2.2 7 0)))))))
abbrev rX2_makeStrength : Room := { frames := 1, cells := 0, slots := 0, locals := 21 }
theorem inX2_makeStrength_X0 : ∀ w ∈ u_ws RX0 TX0 8, w ∈ wsX2_makeStrength := by decide +kernel
theorem inX2_makeStrength_X3 : ∀ w ∈ u_ws RX3 TX3 11, w ∈ wsX2_makeStrength := by decide +kernel
theorem zn_X2_makeStrength (v : SV) (d : Int32) (i : Int32) (val2 : Int32) : narrow .boolean (.int (r_X2_makeStrength v d i val2)) = .int (r_X2_makeStrength v d i val2) := by
  unfold r_X2_makeStrength
  repeat' split
  all_goals rfl
set_option maxHeartbeats 4000000 in
set_option maxRecDepth 100000 in
theorem c_X2_makeStrength (l : Launch) (D : va_G) (cy : Nat → ClassId) (a : Nat → Nat → Nat) (v : SV) (d : Int32) (i : Int32) (val2 : Int32) (sz : Nat) (hsz2 : szok (v.1 0 0)) : CI l yX2_makeStrength wsX2_makeStrength rX2_makeStrength D cy [.ref (a 0 0), .int d, .int i, .int val2] (cS cy a v) sz (r_X2_makeStrength v d i val2) (cS cy a (w_X2_makeStrength v d i val2)) 0 0 := by
  refine st_i (ty := .boolean) (cc := cX2_makeStrength) (maxL := 4) (by decide) rfl (zn_X2_makeStrength v d i val2) (Nat.le_of_ble_eq_true rfl) ?_
  intro pp e s m below meth c A Q ls hx hb hts hown hml hlocks hsz hP hK hD hE hA hl hret
  subst hsz
  have hown : s.vm.findClass RX2 = some m.cls := hown
  have hl : lv_has ls 4 [(0, .ref (a 0 0)), (1, .int d), (2, .int i), (3, .int val2)] := hl
  obtain ⟨H, hH⟩ : ∃ H, H = s.heap := ⟨_, rfl⟩
  rw [← hH] at hP ⊢
  have hS : va_S A s.heap H [] := by rw [hH]; exact va_S.rf
  obtain ⟨locs, hlo⟩ : ∃ locs : List Loc, locs = [] := ⟨_, rfl⟩
  rw [← hlo] at hS ⊢
  refine lv_iload_n hx hb dX2_makeStrength_0 rfl (lv_at hl 1 rfl) ?_
  refine cl_i (va_runSN (As := [.int d]) (rest := []) ⟨hx, hb, hml, hown, hts⟩ (c_X5_isDesk l D cy d H.size) ⟨va_cnB 1 hts gX2_makeStrength_X5_isDesk_n36 rfl rfl rfl hE.2.2.2.2.2.2.2.2.2.2.1 (hts _ (List.mem_of_getElem? (i := 4) rfl)) (by decide +kernel) ⟨Nat.le_of_ble_eq_true rfl, Nat.le_of_ble_eq_true rfl⟩, (hts _ (List.mem_of_getElem? (i := 3) rfl)), trivial⟩ ⟨blU, preU hP hD (List.Perm.refl _) hK hE hS hA⟩ rfl rfl hl.1 rfl (lv_room (Nat.le_of_ble_eq_true rfl)) dX2_makeStrength_1 ⟨Nat.le_of_ble_eq_true rfl, Nat.le_of_ble_eq_true rfl⟩) hP hD (List.Perm.refl _) hS hA (fun H locs hP hD hS => ?_)
  have hP : va_P D vwCl (cS cy a v) H := hP
  have hD : va_D A (cS cy a v) := hD
  refine lv_if_eq (tgt := 23) hx hb dX2_makeStrength_4 (by decide) (fun c_1 => ?_) (fun c_1 => ?_)
  · refine lv_iconst (v := 0) hx hb dX2_makeStrength_23 (by decide) ?_
    have hr9 : (0 : Int32) = (r_X2_makeStrength v d i val2) := by unfold r_X2_makeStrength; simp only [if_pos c_1, if_true, if_false]
    have hw9 : (w_X2_makeStrength v d i val2) = v := by unfold w_X2_makeStrength; simp only [if_pos c_1, if_true, if_false]
    exact hret _ H locs _ ls hr9 (by rw [hw9]; exact hP) (by rw [hw9]; exact hD) hS dX2_makeStrength_24
  · refine lv_aload_n hx hb dX2_makeStrength_7 rfl (lv_at hl 0 rfl) ?_
    refine lv_iload_n hx hb dX2_makeStrength_8 rfl (lv_at hl 2 rfl) ?_
    refine cl_i (va_runV (As := [.int i]) (rest := []) ⟨hx, hb, hml, hown, hts⟩ (c_X3_isNote l D cy a v i H.size) (cwV 1 hts gX2_makeStrength_X3_isNote rfl rfl rfl (by decide +kernel) ⟨Nat.le_of_ble_eq_true rfl, Nat.le_of_ble_eq_true rfl⟩) ⟨blU, va_recv hK hP (ci := 2) (q0 := 0) rfl rfl, preU hP hD (pmI _) hK hE hS hA⟩ rfl rfl hl.1 rfl (lv_room (Nat.le_of_ble_eq_true rfl)) dX2_makeStrength_9 ⟨Nat.le_of_ble_eq_true rfl, Nat.le_of_ble_eq_true rfl⟩) hP hD (pmI _) hS hA (fun H locs hP hD hS => ?_)
    have hP : va_P D vwCl (cS cy a v) H := vP_perm hP (pmI _).symm
    have hD : va_D A (cS cy a v) := vD_perm hD (pmI _).symm
    refine lv_if_eq (tgt := 23) hx hb dX2_makeStrength_12 (by decide) (fun c_2 => ?_) (fun c_2 => ?_)
    · refine lv_iconst (v := 0) hx hb dX2_makeStrength_23 (by decide) ?_
      have hr9 : (0 : Int32) = (r_X2_makeStrength v d i val2) := by unfold r_X2_makeStrength; simp only [if_neg c_1, if_pos c_2, if_true, if_false]
      have hw9 : (w_X2_makeStrength v d i val2) = v := by unfold w_X2_makeStrength; simp only [if_neg c_1, if_pos c_2, if_true, if_false]
      exact hret _ H locs _ ls hr9 (by rw [hw9]; exact hP) (by rw [hw9]; exact hD) hS dX2_makeStrength_24
    · refine lv_aload_n hx hb dX2_makeStrength_15 rfl (lv_at hl 0 rfl) ?_
      refine lv_iload_n hx hb dX2_makeStrength_16 rfl (lv_at hl 3 rfl) ?_
      refine cl_i (va_runV (As := [.int val2]) (rest := []) ⟨hx, hb, hml, hown, hts⟩ (c_X3_isStrength l D cy a v val2 H.size) (cwV 1 hts gX2_makeStrength_X3_isStrength rfl rfl rfl (by decide +kernel) ⟨Nat.le_of_ble_eq_true rfl, Nat.le_of_ble_eq_true rfl⟩) ⟨blU, va_recv hK hP (ci := 2) (q0 := 0) rfl rfl, preU hP hD (pmI _) hK hE hS hA⟩ rfl rfl hl.1 rfl (lv_room (Nat.le_of_ble_eq_true rfl)) dX2_makeStrength_17 ⟨Nat.le_of_ble_eq_true rfl, Nat.le_of_ble_eq_true rfl⟩) hP hD (pmI _) hS hA (fun H locs hP hD hS => ?_)
      have hP : va_P D vwCl (cS cy a v) H := vP_perm hP (pmI _).symm
      have hD : va_D A (cS cy a v) := vD_perm hD (pmI _).symm
      refine lv_if_ne (tgt := 25) hx hb dX2_makeStrength_20 (by decide) (fun c_3 => ?_) (fun c_3 => ?_)
      · have hd := isDesk_of c_1
        rcases hd with hd | hd
        · subst hd
          have hd0 : (0 : Int32) = 0 := by decide
          have hl : lv_has ls 4 [(0, .ref (a 0 0)), (1, .int (0 : Int32)), (2, .int i), (3, .int val2)] := hl
          refine lv_aload_n hx hb dX2_makeStrength_25 rfl (lv_at hl 0 rfl) ?_
          refine va_get (D := D) (ci := 2) (v := .ref ((a 0) 2)) (C := RX3) (T := TX3) (N := 11) hx hb hts inX2_makeStrength_X3 hown hK hP 0 rfl rfl 1 (by decide) (hts _ (List.mem_of_getElem? (i := 1) rfl)) (fun _ h9 => h9) rfl dX2_makeStrength_26 ?_
          refine lv_iload_n hx hb dX2_makeStrength_29 rfl (lv_at hl 1 rfl) ?_
          refine x_aldq (v := .ref ((a 1) 0)) hx hb hK hP 2 2 rfl rfl (vp_c (by decide)) rfl dX2_makeStrength_30 ?_
          refine va_get (D := D) (ci := 0) (v := .ref ((a 1) 2)) (C := RX0) (T := TX0) (N := 8) hx hb hts inX2_makeStrength_X0 hown hK hP 7 rfl rfl 1 (by decide) (hts _ (List.mem_of_getElem? (i := 2) rfl)) (fun _ h9 => h9) rfl dX2_makeStrength_31 ?_
          refine lv_iload_n hx hb dX2_makeStrength_34 rfl (lv_at hl 2 rfl) ?_
          refine lv_iload_n hx hb dX2_makeStrength_35 rfl (lv_at hl 3 rfl) ?_
          refine x_iast (j := i.toNatClampNeg) hx hb hK hP hD hS 9 0 rfl rfl rfl (isNote_of c_2 hsz2) dX2_makeStrength_36 (fun H locs hP hD hS => ?_)
          have hP : va_P D vwCl (cS cy a (v.1, (mkD (v.2.1 0) (upd (v.2.1 1) i.toNatClampNeg val2) (v.2.1 2) (v.2.1 3) (v.2.1 4) (v.2.1 5) (v.2.1 6 0) (v.2.1 7 0)), v.2.2)) H := hP
          have hD : va_D A (cS cy a (v.1, (mkD (v.2.1 0) (upd (v.2.1 1) i.toNatClampNeg val2) (v.2.1 2) (v.2.1 3) (v.2.1 4) (v.2.1 5) (v.2.1 6 0) (v.2.1 7 0)), v.2.2)) := hD
          refine lv_iconst (v := 1) hx hb dX2_makeStrength_37 (by decide) ?_
          have hr9 : (1 : Int32) = (r_X2_makeStrength v (0 : Int32) i val2) := by unfold r_X2_makeStrength; simp only [if_neg c_1, if_neg c_2, if_neg c_3, if_pos hd0, if_true, if_false]
          have hw9 : (w_X2_makeStrength v (0 : Int32) i val2) = (v.1, (mkD (v.2.1 0) (upd (v.2.1 1) i.toNatClampNeg val2) (v.2.1 2) (v.2.1 3) (v.2.1 4) (v.2.1 5) (v.2.1 6 0) (v.2.1 7 0)), v.2.2) := by unfold w_X2_makeStrength; simp only [if_neg c_1, if_neg c_2, if_neg c_3, if_pos hd0, if_true, if_false]
          exact hret _ H locs _ ls hr9 (by rw [hw9]; exact hP) (by rw [hw9]; exact hD) hS dX2_makeStrength_38
        · subst hd
          have hd1 : ¬ (1 : Int32) = 0 := by decide
          have hl : lv_has ls 4 [(0, .ref (a 0 0)), (1, .int (1 : Int32)), (2, .int i), (3, .int val2)] := hl
          refine lv_aload_n hx hb dX2_makeStrength_25 rfl (lv_at hl 0 rfl) ?_
          refine va_get (D := D) (ci := 2) (v := .ref ((a 0) 2)) (C := RX3) (T := TX3) (N := 11) hx hb hts inX2_makeStrength_X3 hown hK hP 0 rfl rfl 1 (by decide) (hts _ (List.mem_of_getElem? (i := 1) rfl)) (fun _ h9 => h9) rfl dX2_makeStrength_26 ?_
          refine lv_iload_n hx hb dX2_makeStrength_29 rfl (lv_at hl 1 rfl) ?_
          refine x_aldq (v := .ref ((a 2) 0)) hx hb hK hP 2 2 rfl rfl (vp_c (by decide)) rfl dX2_makeStrength_30 ?_
          refine va_get (D := D) (ci := 0) (v := .ref ((a 2) 2)) (C := RX0) (T := TX0) (N := 8) hx hb hts inX2_makeStrength_X0 hown hK hP 14 rfl rfl 1 (by decide) (hts _ (List.mem_of_getElem? (i := 2) rfl)) (fun _ h9 => h9) rfl dX2_makeStrength_31 ?_
          refine lv_iload_n hx hb dX2_makeStrength_34 rfl (lv_at hl 2 rfl) ?_
          refine lv_iload_n hx hb dX2_makeStrength_35 rfl (lv_at hl 3 rfl) ?_
          refine x_iast (j := i.toNatClampNeg) hx hb hK hP hD hS 16 0 rfl rfl rfl (isNote_of c_2 hsz2) dX2_makeStrength_36 (fun H locs hP hD hS => ?_)
          have hP : va_P D vwCl (cS cy a (v.1, v.2.1, (mkD (v.2.2 0) (upd (v.2.2 1) i.toNatClampNeg val2) (v.2.2 2) (v.2.2 3) (v.2.2 4) (v.2.2 5) (v.2.2 6 0) (v.2.2 7 0)))) H := hP
          have hD : va_D A (cS cy a (v.1, v.2.1, (mkD (v.2.2 0) (upd (v.2.2 1) i.toNatClampNeg val2) (v.2.2 2) (v.2.2 3) (v.2.2 4) (v.2.2 5) (v.2.2 6 0) (v.2.2 7 0)))) := hD
          refine lv_iconst (v := 1) hx hb dX2_makeStrength_37 (by decide) ?_
          have hr9 : (1 : Int32) = (r_X2_makeStrength v (1 : Int32) i val2) := by unfold r_X2_makeStrength; simp only [if_neg c_1, if_neg c_2, if_neg c_3, if_neg hd1, if_true, if_false]
          have hw9 : (w_X2_makeStrength v (1 : Int32) i val2) = (v.1, v.2.1, (mkD (v.2.2 0) (upd (v.2.2 1) i.toNatClampNeg val2) (v.2.2 2) (v.2.2 3) (v.2.2 4) (v.2.2 5) (v.2.2 6 0) (v.2.2 7 0))) := by unfold w_X2_makeStrength; simp only [if_neg c_1, if_neg c_2, if_neg c_3, if_neg hd1, if_true, if_false]
          exact hret _ H locs _ ls hr9 (by rw [hw9]; exact hP) (by rw [hw9]; exact hD) hS dX2_makeStrength_38
      · refine lv_iconst (v := 0) hx hb dX2_makeStrength_23 (by decide) ?_
        have hr9 : (0 : Int32) = (r_X2_makeStrength v d i val2) := by unfold r_X2_makeStrength; simp only [if_neg c_1, if_neg c_2, if_pos c_3, if_true, if_false]
        have hw9 : (w_X2_makeStrength v d i val2) = v := by unfold w_X2_makeStrength; simp only [if_neg c_1, if_neg c_2, if_pos c_3, if_true, if_false]
        exact hret _ H locs _ ls hr9 (by rw [hw9]; exact hP) (by rw [hw9]; exact hD) hS dX2_makeStrength_24

def r_X2_isGuess (v : SV) (pl : Int32) (way : Int32) : Int32 := (if (r_X5_isPlace pl) = 0 then (0 : Int32) else (if (1 : Int32) < way then (0 : Int32) else (if (r_X3_guessFor v pl) = (if way = (1 : Int32) then (1 : Int32) else (0 : Int32)) then (1 : Int32) else (0 : Int32))))
abbrev rX2_isGuess : Room := { frames := 4, cells := 0, slots := 0, locals := 89 }
theorem zn_X2_isGuess (v : SV) (pl : Int32) (way : Int32) : narrow .boolean (.int (r_X2_isGuess v pl way)) = .int (r_X2_isGuess v pl way) := by
  unfold r_X2_isGuess
  repeat' split
  all_goals rfl
set_option maxHeartbeats 4000000 in
set_option maxRecDepth 100000 in
theorem c_X2_isGuess (l : Launch) (D : va_G) (cy : Nat → ClassId) (a : Nat → Nat → Nat) (v : SV) (pl : Int32) (way : Int32) (sz : Nat) (hsz2 : szok (v.1 0 0)) : CI l yX2_isGuess wsX2_isGuess rX2_isGuess D cy [.ref (a 0 0), .int pl, .int way] (cS cy a v) sz (r_X2_isGuess v pl way) (cS cy a v) 0 0 := by
  refine st_i (ty := .boolean) (cc := cX2_isGuess) (maxL := 3) (by decide) rfl (zn_X2_isGuess v pl way) (Nat.le_of_ble_eq_true rfl) ?_
  intro pp e s m below meth c A Q ls hx hb hts hown hml hlocks hsz hP hK hD hE hA hl hret
  subst hsz
  have hown : s.vm.findClass RX2 = some m.cls := hown
  have hl : lv_has ls 3 [(0, .ref (a 0 0)), (1, .int pl), (2, .int way)] := hl
  obtain ⟨H, hH⟩ : ∃ H, H = s.heap := ⟨_, rfl⟩
  rw [← hH] at hP ⊢
  have hS : va_S A s.heap H [] := by rw [hH]; exact va_S.rf
  obtain ⟨locs, hlo⟩ : ∃ locs : List Loc, locs = [] := ⟨_, rfl⟩
  rw [← hlo] at hS ⊢
  refine lv_iload_n hx hb dX2_isGuess_0 rfl (lv_at hl 1 rfl) ?_
  refine cl_i (va_runSN (As := [.int pl]) (rest := []) ⟨hx, hb, hml, hown, hts⟩ (c_X5_isPlace l D cy pl H.size) ⟨va_cnB 1 hts gX2_isGuess_X5_isPlace_n58 rfl rfl rfl hE.2.2.2.2.2.2.2.2.2.1 (hts _ (List.mem_of_getElem? (i := 2) rfl)) (by decide +kernel) ⟨Nat.le_of_ble_eq_true rfl, Nat.le_of_ble_eq_true rfl⟩, (hts _ (List.mem_of_getElem? (i := 1) rfl)), trivial⟩ ⟨blU, preU hP hD (List.Perm.refl _) hK hE hS hA⟩ rfl rfl hl.1 rfl (lv_room (Nat.le_of_ble_eq_true rfl)) dX2_isGuess_1 ⟨Nat.le_of_ble_eq_true rfl, Nat.le_of_ble_eq_true rfl⟩) hP hD (List.Perm.refl _) hS hA (fun H locs hP hD hS => ?_)
  have hP : va_P D vwCl (cS cy a v) H := hP
  have hD : va_D A (cS cy a v) := hD
  have J35_2 : ∀ (z_2 : Int32) (hz_2 : z_2 = (if (r_X5_isPlace pl) = 0 then (0 : Int32) else (if (1 : Int32) < way then (0 : Int32) else (if (r_X3_guessFor v pl) = (if way = (1 : Int32) then (1 : Int32) else (0 : Int32)) then (1 : Int32) else (0 : Int32))))) (H : Heap) (locs : List Loc), va_P D vwCl (cS cy a v) H → va_D A (cS cy a v) → va_S A s.heap H locs → ∀ ls : Array Slot, lv_has ls 3 [(0, .ref (a 0 0)), (1, .int pl), (2, .int way)] → W pp l e rX2_isGuess s m ([.ref (a 0 0), .int pl, .int way] : List Value).toArray below meth c H locs 0 0 Q (F0 m 35 ls [.int z_2]) := by
    intro z_2 hz_2 H locs hP hD hS ls hl
    subst hz_2
    have hr9 : (if (r_X5_isPlace pl) = 0 then (0 : Int32) else (if (1 : Int32) < way then (0 : Int32) else (if (r_X3_guessFor v pl) = (if way = (1 : Int32) then (1 : Int32) else (0 : Int32)) then (1 : Int32) else (0 : Int32)))) = (r_X2_isGuess v pl way) := by rfl
    exact hret _ H locs _ ls hr9 hP hD hS dX2_isGuess_35
  refine lv_if_eq (tgt := 34) hx hb dX2_isGuess_4 (by decide) (fun c_1 => ?_) (fun c_1 => ?_)
  · refine lv_iconst (v := 0) hx hb dX2_isGuess_34 (by decide) ?_
    exact J35_2 (0 : Int32) (by simp only [if_pos c_1, if_true, if_false]) H locs hP hD hS ls (lv_sub hl [0, 1, 2] rfl)
  · refine lv_iload_n hx hb dX2_isGuess_7 rfl (lv_at hl 2 rfl) ?_
    refine lv_iconst (v := 1) hx hb dX2_isGuess_8 (by decide) ?_
    refine lv_icmp_gt (tgt := 34) hx hb dX2_isGuess_9 (by decide) (fun c_4 => ?_) (fun c_4 => ?_)
    · refine lv_iconst (v := 0) hx hb dX2_isGuess_34 (by decide) ?_
      exact J35_2 (0 : Int32) (by simp only [if_neg c_1, if_pos c_4, if_true, if_false]) H locs hP hD hS ls (lv_sub hl [0, 1, 2] rfl)
    · refine lv_aload_n hx hb dX2_isGuess_12 rfl (lv_at hl 0 rfl) ?_
      refine lv_iload_n hx hb dX2_isGuess_13 rfl (lv_at hl 1 rfl) ?_
      refine cl_i (va_runV (As := [.int pl]) (rest := []) ⟨hx, hb, hml, hown, hts⟩ (c_X3_guessFor l D cy a v pl H.size (isPlace_of c_1) hsz2) (cwV 1 hts gX2_isGuess_X3_guessFor rfl rfl rfl (by decide +kernel) ⟨Nat.le_of_ble_eq_true rfl, Nat.le_of_ble_eq_true rfl⟩) ⟨blU, va_recv hK hP (ci := 2) (q0 := 0) rfl rfl, preU hP hD (pmI _) hK hE hS hA⟩ rfl rfl hl.1 rfl (lv_room (Nat.le_of_ble_eq_true rfl)) dX2_isGuess_14 ⟨Nat.le_of_ble_eq_true rfl, Nat.le_of_ble_eq_true rfl⟩) hP hD (pmI _) hS hA (fun H locs hP hD hS => ?_)
      have hP : va_P D vwCl (cS cy a v) H := vP_perm hP (pmI _).symm
      have hD : va_D A (cS cy a v) := vD_perm hD (pmI _).symm
      refine lv_iload_n hx hb dX2_isGuess_17 rfl (lv_at hl 2 rfl) ?_
      refine lv_iconst (v := 1) hx hb dX2_isGuess_18 (by decide) ?_
      have J27_6 : ∀ (z_6 : Int32) (hz_6 : z_6 = (if way = (1 : Int32) then (1 : Int32) else (0 : Int32))) (H : Heap) (locs : List Loc), va_P D vwCl (cS cy a v) H → va_D A (cS cy a v) → va_S A s.heap H locs → ∀ ls : Array Slot, lv_has ls 3 [(0, .ref (a 0 0)), (1, .int pl), (2, .int way)] → W pp l e rX2_isGuess s m ([.ref (a 0 0), .int pl, .int way] : List Value).toArray below meth c H locs 0 0 Q (F0 m 27 ls [.int z_6, .int (r_X3_guessFor v pl)]) := by
        intro z_6 hz_6 H locs hP hD hS ls hl
        subst hz_6
        refine lv_icmp_ne (tgt := 34) hx hb dX2_isGuess_27 (by decide) (fun c_8 => ?_) (fun c_8 => ?_)
        · refine lv_iconst (v := 0) hx hb dX2_isGuess_34 (by decide) ?_
          exact J35_2 (0 : Int32) (by simp only [if_neg c_1, if_neg c_4, if_neg c_8, if_true, if_false]) H locs hP hD hS ls (lv_sub hl [0, 1, 2] rfl)
        · refine lv_iconst (v := 1) hx hb dX2_isGuess_30 (by decide) ?_
          refine lv_goto (tgt := 35) hx hb dX2_isGuess_31 (by decide) ?_
          exact J35_2 (1 : Int32) (by simp only [if_neg c_1, if_neg c_4, if_pos c_8, if_true, if_false]) H locs hP hD hS ls (lv_sub hl [0, 1, 2] rfl)
      refine lv_icmp_ne (tgt := 26) hx hb dX2_isGuess_19 (by decide) (fun c_5 => ?_) (fun c_5 => ?_)
      · refine lv_iconst (v := 0) hx hb dX2_isGuess_26 (by decide) ?_
        exact J27_6 (0 : Int32) (by simp only [if_neg c_5, if_true, if_false]) H locs hP hD hS ls (lv_sub hl [0, 1, 2] rfl)
      · refine lv_iconst (v := 1) hx hb dX2_isGuess_22 (by decide) ?_
        refine lv_goto (tgt := 27) hx hb dX2_isGuess_23 (by decide) ?_
        exact J27_6 (1 : Int32) (by simp only [if_pos c_5, if_true, if_false]) H locs hP hD hS ls (lv_sub hl [0, 1, 2] rfl)

