/-! ===== BranchNotes: checks, reads ===== -/
def o_X5_checkDesk (d : Int32) : Int32 := (if (r_X5_isDesk d) = 0 then (-9999001 : Int32) else (0 : Int32))
abbrev rX5_checkDesk : Room := { frames := 6, cells := 1, slots := 6, locals := 90 }
set_option maxHeartbeats 4000000 in
set_option maxRecDepth 100000 in
theorem c_X5_checkDesk (l : Launch) (hlt : l.stackTraces = false) (D : va_G) (cy : Nat → ClassId)  (d : Int32) (sz : Nat)  : CXN l yX5_checkDesk wsX5_checkDesk rX5_checkDesk D cy [.int d] [] sz (o_X5_checkDesk d) [] 1 6 := by
  refine stx_n (cc := cX5_checkDesk) (maxL := 1) (by decide) rfl (Nat.le_of_ble_eq_true rfl) ?_
  intro pp e s m below meth c A Q ls hx hb hts hown hml hlocks htab hsz hP hK hD hE hA hl hAe hQ hret
  subst hsz
  have hown : s.vm.findClass RX5 = some m.cls := hown
  have hl : lv_has ls 1 [(0, .int d)] := hl
  obtain ⟨H, hH⟩ : ∃ H, H = s.heap := ⟨_, rfl⟩
  rw [← hH] at hP ⊢
  have hS : va_S A s.heap H [] := by rw [hH]; exact va_S.rf
  obtain ⟨locs, hlo⟩ : ∃ locs : List Loc, locs = [] := ⟨_, rfl⟩
  rw [← hlo] at hS ⊢
  refine lv_iload_n hx hb dX5_checkDesk_0 rfl (lv_at hl 0 rfl) ?_
  refine cl_i (va_runS (As := [.int d]) (rest := []) ⟨hx, hb, hml, hown, hts⟩ (c_X5_isDesk l D cy d H.size) (va_cwS 1 hts gX5_checkDesk_X5_isDesk rfl rfl rfl (by decide +kernel) ⟨Nat.le_of_ble_eq_true rfl, Nat.le_of_ble_eq_true rfl⟩) ⟨blU, preU hP hD (List.Perm.refl _) hK hE hS hA⟩ rfl rfl hl.1 rfl (lv_room (Nat.le_of_ble_eq_true rfl)) dX5_checkDesk_1 ⟨Nat.le_of_ble_eq_true rfl, Nat.le_of_ble_eq_true rfl⟩) hP hD (List.Perm.refl _) hS hA (fun H locs hP hD hS => ?_)
  have hP : va_P D vwCl [] H := hP
  have hD : va_D A [] := hD
  refine lv_if_ne (tgt := 18) hx hb dX5_checkDesk_4 (by decide) (fun c_1 => ?_) (fun c_1 => ?_)
  · refine W.widen (k := 1) (n := 6) (Nat.le_of_ble_eq_true rfl) (Nat.le_of_ble_eq_true rfl) ?_
    have hr9 : (o_X5_checkDesk d) = (0 : Int32) := by unfold o_X5_checkDesk; simp only [if_neg c_1, if_true, if_false]
    exact hret H locs _ ls hr9 hP hD hS dX5_checkDesk_18
  · have ho9 : (o_X5_checkDesk d) = (-9999001 : Int32) := by unfold o_X5_checkDesk; simp only [if_pos c_1, if_true, if_false]
    rw [hQ]
    exact thr_1 (text := "no such desk") hx hb hlt hown (hts _ (List.mem_of_getElem? (i := 1) rfl)) (hts _ (List.mem_of_getElem? (i := 2) rfl)) (fun w hw => hts w (List.mem_cons_of_mem _ (List.mem_append_right _ hw))) (by decide +kernel) hE hS (hl.1.trans hml.symm) dX5_checkDesk_7 dX5_checkDesk_10 dX5_checkDesk_11 dX5_checkDesk_14 dX5_checkDesk_17 htab (Nat.le_of_ble_eq_true rfl) (Nat.le_of_ble_eq_true rfl) (Nat.le_of_ble_eq_true rfl) (Nat.le_of_ble_eq_true rfl) hlocks hAe ho9 hP hD (Nat.le_of_ble_eq_true rfl) (Nat.le_of_ble_eq_true rfl)

def o_X5_checkPlace (d : Int32) : Int32 := (if (r_X5_isPlace d) = 0 then (-9999001 : Int32) else (0 : Int32))
abbrev rX5_checkPlace : Room := { frames := 6, cells := 1, slots := 6, locals := 90 }
set_option maxHeartbeats 4000000 in
set_option maxRecDepth 100000 in
theorem c_X5_checkPlace (l : Launch) (hlt : l.stackTraces = false) (D : va_G) (cy : Nat → ClassId)  (d : Int32) (sz : Nat)  : CXN l yX5_checkPlace wsX5_checkPlace rX5_checkPlace D cy [.int d] [] sz (o_X5_checkPlace d) [] 1 6 := by
  refine stx_n (cc := cX5_checkPlace) (maxL := 1) (by decide) rfl (Nat.le_of_ble_eq_true rfl) ?_
  intro pp e s m below meth c A Q ls hx hb hts hown hml hlocks htab hsz hP hK hD hE hA hl hAe hQ hret
  subst hsz
  have hown : s.vm.findClass RX5 = some m.cls := hown
  have hl : lv_has ls 1 [(0, .int d)] := hl
  obtain ⟨H, hH⟩ : ∃ H, H = s.heap := ⟨_, rfl⟩
  rw [← hH] at hP ⊢
  have hS : va_S A s.heap H [] := by rw [hH]; exact va_S.rf
  obtain ⟨locs, hlo⟩ : ∃ locs : List Loc, locs = [] := ⟨_, rfl⟩
  rw [← hlo] at hS ⊢
  refine lv_iload_n hx hb dX5_checkPlace_0 rfl (lv_at hl 0 rfl) ?_
  refine cl_i (va_runS (As := [.int d]) (rest := []) ⟨hx, hb, hml, hown, hts⟩ (c_X5_isPlace l D cy d H.size) (va_cwS 1 hts gX5_checkPlace_X5_isPlace rfl rfl rfl (by decide +kernel) ⟨Nat.le_of_ble_eq_true rfl, Nat.le_of_ble_eq_true rfl⟩) ⟨blU, preU hP hD (List.Perm.refl _) hK hE hS hA⟩ rfl rfl hl.1 rfl (lv_room (Nat.le_of_ble_eq_true rfl)) dX5_checkPlace_1 ⟨Nat.le_of_ble_eq_true rfl, Nat.le_of_ble_eq_true rfl⟩) hP hD (List.Perm.refl _) hS hA (fun H locs hP hD hS => ?_)
  have hP : va_P D vwCl [] H := hP
  have hD : va_D A [] := hD
  refine lv_if_ne (tgt := 18) hx hb dX5_checkPlace_4 (by decide) (fun c_1 => ?_) (fun c_1 => ?_)
  · refine W.widen (k := 1) (n := 6) (Nat.le_of_ble_eq_true rfl) (Nat.le_of_ble_eq_true rfl) ?_
    have hr9 : (o_X5_checkPlace d) = (0 : Int32) := by unfold o_X5_checkPlace; simp only [if_neg c_1, if_true, if_false]
    exact hret H locs _ ls hr9 hP hD hS dX5_checkPlace_18
  · have ho9 : (o_X5_checkPlace d) = (-9999001 : Int32) := by unfold o_X5_checkPlace; simp only [if_pos c_1, if_true, if_false]
    rw [hQ]
    exact thr_1 (text := "no such place") hx hb hlt hown (hts _ (List.mem_of_getElem? (i := 1) rfl)) (hts _ (List.mem_of_getElem? (i := 2) rfl)) (fun w hw => hts w (List.mem_cons_of_mem _ (List.mem_append_right _ hw))) (by decide +kernel) hE hS (hl.1.trans hml.symm) dX5_checkPlace_7 dX5_checkPlace_10 dX5_checkPlace_11 dX5_checkPlace_14 dX5_checkPlace_17 htab (Nat.le_of_ble_eq_true rfl) (Nat.le_of_ble_eq_true rfl) (Nat.le_of_ble_eq_true rfl) (Nat.le_of_ble_eq_true rfl) hlocks hAe ho9 hP hD (Nat.le_of_ble_eq_true rfl) (Nat.le_of_ble_eq_true rfl)

def o_X5_checkSlot (d : Int32) : Int32 := (if d < 0 then (-9999001 : Int32) else (if d < (2 : Int32) then (0 : Int32) else (-9999001 : Int32)))
abbrev rX5_checkSlot : Room := { frames := 6, cells := 1, slots := 6, locals := 90 }
set_option maxHeartbeats 4000000 in
set_option maxRecDepth 100000 in
theorem c_X5_checkSlot (l : Launch) (hlt : l.stackTraces = false) (D : va_G) (cy : Nat → ClassId)  (d : Int32) (sz : Nat)  : CXN l yX5_checkSlot wsX5_checkSlot rX5_checkSlot D cy [.int d] [] sz (o_X5_checkSlot d) [] 1 6 := by
  refine stx_n (cc := cX5_checkSlot) (maxL := 1) (by decide) rfl (Nat.le_of_ble_eq_true rfl) ?_
  intro pp e s m below meth c A Q ls hx hb hts hown hml hlocks htab hsz hP hK hD hE hA hl hAe hQ hret
  subst hsz
  have hown : s.vm.findClass RX5 = some m.cls := hown
  have hl : lv_has ls 1 [(0, .int d)] := hl
  obtain ⟨H, hH⟩ : ∃ H, H = s.heap := ⟨_, rfl⟩
  rw [← hH] at hP ⊢
  have hS : va_S A s.heap H [] := by rw [hH]; exact va_S.rf
  obtain ⟨locs, hlo⟩ : ∃ locs : List Loc, locs = [] := ⟨_, rfl⟩
  rw [← hlo] at hS ⊢
  refine lv_iload_n hx hb dX5_checkSlot_0 rfl (lv_at hl 0 rfl) ?_
  refine lv_if_lt (tgt := 9) hx hb dX5_checkSlot_1 (by decide) (fun c_1 => ?_) (fun c_1 => ?_)
  · have ho9 : (o_X5_checkSlot d) = (-9999001 : Int32) := by unfold o_X5_checkSlot; simp only [if_pos c_1, if_true, if_false]
    rw [hQ]
    exact thr_1 (text := "no such save slot") hx hb hlt hown (hts _ (List.mem_of_getElem? (i := 1) rfl)) (hts _ (List.mem_of_getElem? (i := 2) rfl)) (fun w hw => hts w (List.mem_cons_of_mem _ (List.mem_append_right _ hw))) (by decide +kernel) hE hS (hl.1.trans hml.symm) dX5_checkSlot_9 dX5_checkSlot_12 dX5_checkSlot_13 dX5_checkSlot_16 dX5_checkSlot_19 htab (Nat.le_of_ble_eq_true rfl) (Nat.le_of_ble_eq_true rfl) (Nat.le_of_ble_eq_true rfl) (Nat.le_of_ble_eq_true rfl) hlocks hAe ho9 hP hD (Nat.le_of_ble_eq_true rfl) (Nat.le_of_ble_eq_true rfl)
  · refine lv_iload_n hx hb dX5_checkSlot_4 rfl (lv_at hl 0 rfl) ?_
    refine lv_iconst (v := 2) hx hb dX5_checkSlot_5 (by decide) ?_
    refine lv_icmp_lt (tgt := 20) hx hb dX5_checkSlot_6 (by decide) (fun c_2 => ?_) (fun c_2 => ?_)
    · refine W.widen (k := 1) (n := 6) (Nat.le_of_ble_eq_true rfl) (Nat.le_of_ble_eq_true rfl) ?_
      have hr9 : (o_X5_checkSlot d) = (0 : Int32) := by unfold o_X5_checkSlot; simp only [if_neg c_1, if_pos c_2, if_true, if_false]
      exact hret H locs _ ls hr9 hP hD hS dX5_checkSlot_20
    · have ho9 : (o_X5_checkSlot d) = (-9999001 : Int32) := by unfold o_X5_checkSlot; simp only [if_neg c_1, if_neg c_2, if_true, if_false]
      rw [hQ]
      exact thr_1 (text := "no such save slot") hx hb hlt hown (hts _ (List.mem_of_getElem? (i := 1) rfl)) (hts _ (List.mem_of_getElem? (i := 2) rfl)) (fun w hw => hts w (List.mem_cons_of_mem _ (List.mem_append_right _ hw))) (by decide +kernel) hE hS (hl.1.trans hml.symm) dX5_checkSlot_9 dX5_checkSlot_12 dX5_checkSlot_13 dX5_checkSlot_16 dX5_checkSlot_19 htab (Nat.le_of_ble_eq_true rfl) (Nat.le_of_ble_eq_true rfl) (Nat.le_of_ble_eq_true rfl) (Nat.le_of_ble_eq_true rfl) hlocks hAe ho9 hP hD (Nat.le_of_ble_eq_true rfl) (Nat.le_of_ble_eq_true rfl)

def o_X5_checkNote (V : BV) (i : Int32) : Int32 := (if (r_X3_isNote V.2.1 i) = 0 then (-9999001 : Int32) else (0 : Int32))
abbrev rX5_checkNote : Room := { frames := 6, cells := 1, slots := 6, locals := 90 }
theorem inX5_checkNote_X5 : ∀ w ∈ u_ws RX5 TX5 6, w ∈ wsX5_checkNote := by decide +kernel
set_option maxHeartbeats 4000000 in
set_option maxRecDepth 100000 in
theorem c_X5_checkNote (l : Launch) (hlt : l.stackTraces = false) (D : va_G) (cy : Nat → ClassId) (ad : AD) (V : BV) (i : Int32) (sz : Nat)  : CXN l yX5_checkNote wsX5_checkNote rX5_checkNote D cy [.ref (ad 0 0 0), .int i] (wB cy ad V) sz (o_X5_checkNote V i) (wB cy ad V) 1 6 := by
  refine stx_n (cc := cX5_checkNote) (maxL := 2) (by decide) rfl (Nat.le_of_ble_eq_true rfl) ?_
  intro pp e s m below meth c A Q ls hx hb hts hown hml hlocks htab hsz hP hK hD hE hA hl hAe hQ hret
  subst hsz
  have hown : s.vm.findClass RX5 = some m.cls := hown
  have hl : lv_has ls 2 [(0, .ref (ad 0 0 0)), (1, .int i)] := hl
  obtain ⟨H, hH⟩ : ∃ H, H = s.heap := ⟨_, rfl⟩
  rw [← hH] at hP ⊢
  have hS : va_S A s.heap H [] := by rw [hH]; exact va_S.rf
  obtain ⟨locs, hlo⟩ : ∃ locs : List Loc, locs = [] := ⟨_, rfl⟩
  rw [← hlo] at hS ⊢
  refine lv_aload_n hx hb dX5_checkNote_0 rfl (lv_at hl 0 rfl) ?_
  refine va_get (D := D) (ci := 4) (v := .ref (ad 1 0 0)) (C := RX5) (T := TX5) (N := 6) hx hb hts inX5_checkNote_X5 hown hK hP 0 rfl rfl 1 (by decide) (hts _ (List.mem_of_getElem? (i := 3) rfl)) (fun _ h9 => h9) rfl dX5_checkNote_1 ?_
  refine lv_iload_n hx hb dX5_checkNote_4 rfl (lv_at hl 1 rfl) ?_
  refine cl_i (va_runV (As := [.int i]) (rest := []) ⟨hx, hb, hml, hown, hts⟩ (c_X3_isNote l D cy (ad 1) V.2.1 i H.size) (cwV 1 hts gX5_checkNote_X3_isNote rfl rfl rfl (by decide +kernel) ⟨Nat.le_of_ble_eq_true rfl, Nat.le_of_ble_eq_true rfl⟩) ⟨blU, va_recv hK hP (ci := 2) (q0 := 7) rfl rfl, preU hP hD (pmB (bB cy ad V) 2 _ (cS cy (ad 1) V.2.1) rfl).1 hK hE hS hA⟩ rfl rfl hl.1 rfl (lv_room (Nat.le_of_ble_eq_true rfl)) dX5_checkNote_5 ⟨Nat.le_of_ble_eq_true rfl, Nat.le_of_ble_eq_true rfl⟩) hP hD (pmB (bB cy ad V) 2 _ (cS cy (ad 1) V.2.1) rfl).1 hS hA (fun H locs hP hD hS => ?_)
  have hP : va_P D vwCl (wB cy ad V) H := vP_perm hP (pmB (bB cy ad V) 2 _ (cS cy (ad 1) V.2.1) rfl).2
  have hD : va_D A (wB cy ad V) := vD_perm hD (pmB (bB cy ad V) 2 _ (cS cy (ad 1) V.2.1) rfl).2
  refine lv_if_ne (tgt := 22) hx hb dX5_checkNote_8 (by decide) (fun c_1 => ?_) (fun c_1 => ?_)
  · refine W.widen (k := 1) (n := 6) (Nat.le_of_ble_eq_true rfl) (Nat.le_of_ble_eq_true rfl) ?_
    have hr9 : (o_X5_checkNote V i) = (0 : Int32) := by unfold o_X5_checkNote; simp only [if_neg c_1, if_true, if_false]
    exact hret H locs _ ls hr9 hP hD hS dX5_checkNote_22
  · have ho9 : (o_X5_checkNote V i) = (-9999001 : Int32) := by unfold o_X5_checkNote; simp only [if_pos c_1, if_true, if_false]
    rw [hQ]
    exact thr_1 (text := "no such note") hx hb hlt hown (hts _ (List.mem_of_getElem? (i := 1) rfl)) (hts _ (List.mem_of_getElem? (i := 2) rfl)) (fun w hw => hts w (List.mem_cons_of_mem _ (List.mem_append_right _ hw))) (by decide +kernel) hE hS (hl.1.trans hml.symm) dX5_checkNote_11 dX5_checkNote_14 dX5_checkNote_15 dX5_checkNote_18 dX5_checkNote_21 htab (Nat.le_of_ble_eq_true rfl) (Nat.le_of_ble_eq_true rfl) (Nat.le_of_ble_eq_true rfl) (Nat.le_of_ble_eq_true rfl) hlocks hAe ho9 hP hD (Nat.le_of_ble_eq_true rfl) (Nat.le_of_ble_eq_true rfl)

