/-! ===== State ===== -/
def szok (x : Int32) : Prop := ∃ k : Nat, 2 ≤ k ∧ k ≤ 6 ∧ x = nI k
theorem vp_mono {x : Int32} {n m : Nat} (h : vp_in x n) (hm : n ≤ m) : vp_in x m := fun q => h (q.elim Or.inl (fun z => Or.inr (Nat.le_trans hm z)))
theorem note_in (w : RV) (pl sz2 : Int32) (h : szok sz2) : vp_in (r_X0_noteFor w pl sz2) 64 := by
  obtain ⟨k, h1, h2, rfl⟩ := h
  unfold r_X0_noteFor
  generalize (if ((w 0) 0) = 0 then pl else (if ((w 0) 0) = 1 then (r_X0_pathFor w pl) else (if ((w 0) 0) = 2 then (pl + (r_X0_pathFor w pl)) else (if ((w 0) 0) = 3 then (pl ^^^ (r_X0_pathFor w pl)) else ((pl <<< (((w 0) 1) &&& 31)) + (r_X0_pathFor w pl)))))) = y
  have hk : k = 2 ∨ k = 3 ∨ k = 4 ∨ k = 5 ∨ k = 6 := by omega
  rcases hk with rfl | rfl | rfl | rfl | rfl
  · exact vp_mono (pk_andIn y 2 (by decide) (by decide)) (by decide)
  · exact vp_mono (pk_andIn y 3 (by decide) (by decide)) (by decide)
  · exact vp_mono (pk_andIn y 4 (by decide) (by decide)) (by decide)
  · exact vp_mono (pk_andIn y 5 (by decide) (by decide)) (by decide)
  · exact vp_mono (pk_andIn y 6 (by decide) (by decide)) (by decide)

def r_X3_isNote (v : SV) (i : Int32) : Int32 := (if i < 0 then (0 : Int32) else (if ((1 : Int32) <<< (((v.1 0) 0) &&& 31)) ≤ i then (0 : Int32) else (1 : Int32)))
abbrev rX3_isNote : Room := { frames := 0, cells := 0, slots := 0, locals := 0 }
theorem inX3_isNote_X3 : ∀ w ∈ u_ws RX3 TX3 11, w ∈ wsX3_isNote := by decide +kernel
theorem zn_X3_isNote (v : SV) (i : Int32) : narrow .boolean (.int (r_X3_isNote v i)) = .int (r_X3_isNote v i) := by
  unfold r_X3_isNote
  repeat' split
  all_goals rfl
set_option maxHeartbeats 4000000 in
set_option maxRecDepth 100000 in
theorem c_X3_isNote (l : Launch) (D : va_G) (cy : Nat → ClassId) (a : Nat → Nat → Nat) (v : SV) (i : Int32) (sz : Nat)  : CI l yX3_isNote wsX3_isNote rX3_isNote D cy [.ref (a 0 0), .int i] (cS cy a v) sz (r_X3_isNote v i) (cS cy a v) 0 0 := by
  refine st_i (ty := .boolean) (cc := cX3_isNote) (maxL := 2) (by decide) rfl (zn_X3_isNote v i) (Nat.le_of_ble_eq_true rfl) ?_
  intro pp e s m below meth c A Q ls hx hb hts hown hml hlocks hsz hP hK hD hE hA hl hret
  subst hsz
  have hown : s.vm.findClass RX3 = some m.cls := hown
  have hl : lv_has ls 2 [(0, .ref (a 0 0)), (1, .int i)] := hl
  obtain ⟨H, hH⟩ : ∃ H, H = s.heap := ⟨_, rfl⟩
  rw [← hH] at hP ⊢
  have hS : va_S A s.heap H [] := by rw [hH]; exact va_S.rf
  obtain ⟨locs, hlo⟩ : ∃ locs : List Loc, locs = [] := ⟨_, rfl⟩
  rw [← hlo] at hS ⊢
  refine lv_iload_n hx hb dX3_isNote_0 rfl (lv_at hl 1 rfl) ?_
  have J21_2 : ∀ (z_2 : Int32) (hz_2 : z_2 = (if i < 0 then (0 : Int32) else (if ((1 : Int32) <<< (((v.1 0) 0) &&& 31)) ≤ i then (0 : Int32) else (1 : Int32)))) (H : Heap) (locs : List Loc), va_P D vwCl (cS cy a v) H → va_D A (cS cy a v) → va_S A s.heap H locs → ∀ ls : Array Slot, lv_has ls 2 [(0, .ref (a 0 0)), (1, .int i)] → W pp l e rX3_isNote s m ([.ref (a 0 0), .int i] : List Value).toArray below meth c H locs 0 0 Q (F0 m 21 ls [.int z_2]) := by
    intro z_2 hz_2 H locs hP hD hS ls hl
    subst hz_2
    have hr9 : (if i < 0 then (0 : Int32) else (if ((1 : Int32) <<< (((v.1 0) 0) &&& 31)) ≤ i then (0 : Int32) else (1 : Int32))) = (r_X3_isNote v i) := by rfl
    exact hret _ H locs _ ls hr9 hP hD hS dX3_isNote_21
  refine lv_if_lt (tgt := 20) hx hb dX3_isNote_1 (by decide) (fun c_1 => ?_) (fun c_1 => ?_)
  · refine lv_iconst (v := 0) hx hb dX3_isNote_20 (by decide) ?_
    exact J21_2 (0 : Int32) (by simp only [if_pos c_1, if_true, if_false]) H locs hP hD hS ls (lv_sub hl [0, 1] rfl)
  · refine lv_iload_n hx hb dX3_isNote_4 rfl (lv_at hl 1 rfl) ?_
    refine lv_iconst (v := 1) hx hb dX3_isNote_5 (by decide) ?_
    refine lv_aload_n hx hb dX3_isNote_6 rfl (lv_at hl 0 rfl) ?_
    refine va_get (D := D) (ci := 2) (v := .ref ((a 0) 1)) (C := RX3) (T := TX3) (N := 11) hx hb hts inX3_isNote_X3 hown hK hP 0 rfl rfl 0 (by decide) (hts _ (List.mem_of_getElem? (i := 1) rfl)) (fun _ h9 => h9) rfl dX3_isNote_7 ?_
    refine lv_iconst (v := 0) hx hb dX3_isNote_10 (by decide) ?_
    refine x_iald (f := (v.1 0)) (j := 0) hx hb hK hP 1 0 rfl rfl rfl (vp_c (by decide)) dX3_isNote_11 ?_
    refine lv_ishl hx hb dX3_isNote_12 ?_
    refine lv_icmp_ge (tgt := 20) hx hb dX3_isNote_13 (by decide) (fun c_4 => ?_) (fun c_4 => ?_)
    · refine lv_iconst (v := 0) hx hb dX3_isNote_20 (by decide) ?_
      exact J21_2 (0 : Int32) (by simp only [if_neg c_1, if_pos c_4, if_true, if_false]) H locs hP hD hS ls (lv_sub hl [0, 1] rfl)
    · refine lv_iconst (v := 1) hx hb dX3_isNote_16 (by decide) ?_
      refine lv_goto (tgt := 21) hx hb dX3_isNote_17 (by decide) ?_
      exact J21_2 (1 : Int32) (by simp only [if_neg c_1, if_neg c_4, if_true, if_false]) H locs hP hD hS ls (lv_sub hl [0, 1] rfl)

def r_X3_isStrength (v : SV) (i : Int32) : Int32 := (if i < 0 then (0 : Int32) else (if ((2 : Int32) * ((v.1 0) 1)) ≤ i then (0 : Int32) else (1 : Int32)))
abbrev rX3_isStrength : Room := { frames := 0, cells := 0, slots := 0, locals := 0 }
theorem inX3_isStrength_X3 : ∀ w ∈ u_ws RX3 TX3 11, w ∈ wsX3_isStrength := by decide +kernel
theorem zn_X3_isStrength (v : SV) (i : Int32) : narrow .boolean (.int (r_X3_isStrength v i)) = .int (r_X3_isStrength v i) := by
  unfold r_X3_isStrength
  repeat' split
  all_goals rfl
set_option maxHeartbeats 4000000 in
set_option maxRecDepth 100000 in
theorem c_X3_isStrength (l : Launch) (D : va_G) (cy : Nat → ClassId) (a : Nat → Nat → Nat) (v : SV) (i : Int32) (sz : Nat)  : CI l yX3_isStrength wsX3_isStrength rX3_isStrength D cy [.ref (a 0 0), .int i] (cS cy a v) sz (r_X3_isStrength v i) (cS cy a v) 0 0 := by
  refine st_i (ty := .boolean) (cc := cX3_isStrength) (maxL := 2) (by decide) rfl (zn_X3_isStrength v i) (Nat.le_of_ble_eq_true rfl) ?_
  intro pp e s m below meth c A Q ls hx hb hts hown hml hlocks hsz hP hK hD hE hA hl hret
  subst hsz
  have hown : s.vm.findClass RX3 = some m.cls := hown
  have hl : lv_has ls 2 [(0, .ref (a 0 0)), (1, .int i)] := hl
  obtain ⟨H, hH⟩ : ∃ H, H = s.heap := ⟨_, rfl⟩
  rw [← hH] at hP ⊢
  have hS : va_S A s.heap H [] := by rw [hH]; exact va_S.rf
  obtain ⟨locs, hlo⟩ : ∃ locs : List Loc, locs = [] := ⟨_, rfl⟩
  rw [← hlo] at hS ⊢
  refine lv_iload_n hx hb dX3_isStrength_0 rfl (lv_at hl 1 rfl) ?_
  have J21_2 : ∀ (z_2 : Int32) (hz_2 : z_2 = (if i < 0 then (0 : Int32) else (if ((2 : Int32) * ((v.1 0) 1)) ≤ i then (0 : Int32) else (1 : Int32)))) (H : Heap) (locs : List Loc), va_P D vwCl (cS cy a v) H → va_D A (cS cy a v) → va_S A s.heap H locs → ∀ ls : Array Slot, lv_has ls 2 [(0, .ref (a 0 0)), (1, .int i)] → W pp l e rX3_isStrength s m ([.ref (a 0 0), .int i] : List Value).toArray below meth c H locs 0 0 Q (F0 m 21 ls [.int z_2]) := by
    intro z_2 hz_2 H locs hP hD hS ls hl
    subst hz_2
    have hr9 : (if i < 0 then (0 : Int32) else (if ((2 : Int32) * ((v.1 0) 1)) ≤ i then (0 : Int32) else (1 : Int32))) = (r_X3_isStrength v i) := by rfl
    exact hret _ H locs _ ls hr9 hP hD hS dX3_isStrength_21
  refine lv_if_lt (tgt := 20) hx hb dX3_isStrength_1 (by decide) (fun c_1 => ?_) (fun c_1 => ?_)
  · refine lv_iconst (v := 0) hx hb dX3_isStrength_20 (by decide) ?_
    exact J21_2 (0 : Int32) (by simp only [if_pos c_1, if_true, if_false]) H locs hP hD hS ls (lv_sub hl [0, 1] rfl)
  · refine lv_iload_n hx hb dX3_isStrength_4 rfl (lv_at hl 1 rfl) ?_
    refine lv_iconst (v := 2) hx hb dX3_isStrength_5 (by decide) ?_
    refine lv_aload_n hx hb dX3_isStrength_6 rfl (lv_at hl 0 rfl) ?_
    refine va_get (D := D) (ci := 2) (v := .ref ((a 0) 1)) (C := RX3) (T := TX3) (N := 11) hx hb hts inX3_isStrength_X3 hown hK hP 0 rfl rfl 0 (by decide) (hts _ (List.mem_of_getElem? (i := 1) rfl)) (fun _ h9 => h9) rfl dX3_isStrength_7 ?_
    refine lv_iconst (v := 1) hx hb dX3_isStrength_10 (by decide) ?_
    refine x_iald (f := (v.1 0)) (j := 1) hx hb hK hP 1 0 rfl rfl rfl (vp_c (by decide)) dX3_isStrength_11 ?_
    refine lv_imul hx hb dX3_isStrength_12 ?_
    refine lv_icmp_ge (tgt := 20) hx hb dX3_isStrength_13 (by decide) (fun c_4 => ?_) (fun c_4 => ?_)
    · refine lv_iconst (v := 0) hx hb dX3_isStrength_20 (by decide) ?_
      exact J21_2 (0 : Int32) (by simp only [if_neg c_1, if_pos c_4, if_true, if_false]) H locs hP hD hS ls (lv_sub hl [0, 1] rfl)
    · refine lv_iconst (v := 1) hx hb dX3_isStrength_16 (by decide) ?_
      refine lv_goto (tgt := 21) hx hb dX3_isStrength_17 (by decide) ?_
      exact J21_2 (1 : Int32) (by simp only [if_neg c_1, if_neg c_4, if_true, if_false]) H locs hP hD hS ls (lv_sub hl [0, 1] rfl)

def r_X3_allClashes (v : SV)  : Int32 := ((v.2.1 6 0) + (v.2.2 6 0))
abbrev rX3_allClashes : Room := { frames := 0, cells := 0, slots := 0, locals := 0 }
theorem inX3_allClashes_X0 : ∀ w ∈ u_ws RX0 TX0 8, w ∈ wsX3_allClashes := by decide +kernel
theorem inX3_allClashes_X3 : ∀ w ∈ u_ws RX3 TX3 11, w ∈ wsX3_allClashes := by decide +kernel
set_option maxHeartbeats 4000000 in
set_option maxRecDepth 100000 in
theorem c_X3_allClashes (l : Launch) (D : va_G) (cy : Nat → ClassId) (a : Nat → Nat → Nat) (v : SV)  (sz : Nat)  : CI l yX3_allClashes wsX3_allClashes rX3_allClashes D cy [.ref (a 0 0)] (cS cy a v) sz (r_X3_allClashes v) (cS cy a v) 0 0 := by
  refine st_i (ty := .int) (cc := cX3_allClashes) (maxL := 1) (by decide) rfl rfl (Nat.le_of_ble_eq_true rfl) ?_
  intro pp e s m below meth c A Q ls hx hb hts hown hml hlocks hsz hP hK hD hE hA hl hret
  subst hsz
  have hown : s.vm.findClass RX3 = some m.cls := hown
  have hl : lv_has ls 1 [(0, .ref (a 0 0))] := hl
  obtain ⟨H, hH⟩ : ∃ H, H = s.heap := ⟨_, rfl⟩
  rw [← hH] at hP ⊢
  have hS : va_S A s.heap H [] := by rw [hH]; exact va_S.rf
  obtain ⟨locs, hlo⟩ : ∃ locs : List Loc, locs = [] := ⟨_, rfl⟩
  rw [← hlo] at hS ⊢
  refine lv_aload_n hx hb dX3_allClashes_0 rfl (lv_at hl 0 rfl) ?_
  refine va_get (D := D) (ci := 2) (v := .ref ((a 0) 2)) (C := RX3) (T := TX3) (N := 11) hx hb hts inX3_allClashes_X3 hown hK hP 0 rfl rfl 1 (by decide) (hts _ (List.mem_of_getElem? (i := 1) rfl)) (fun _ h9 => h9) rfl dX3_allClashes_1 ?_
  refine lv_iconst (v := 0) hx hb dX3_allClashes_4 (by decide) ?_
  refine x_aldq (v := .ref ((a 1) 0)) hx hb hK hP 2 2 rfl rfl (vp_c (by decide)) rfl dX3_allClashes_5 ?_
  refine va_get (D := D) (ci := 0) (v := .int (v.2.1 6 0)) (C := RX0) (T := TX0) (N := 8) hx hb hts inX3_allClashes_X0 hown hK hP 7 rfl rfl 6 (by decide) (hts _ (List.mem_of_getElem? (i := 2) rfl)) (fun _ h9 => h9) rfl dX3_allClashes_6 ?_
  refine lv_aload_n hx hb dX3_allClashes_9 rfl (lv_at hl 0 rfl) ?_
  refine va_get (D := D) (ci := 2) (v := .ref ((a 0) 2)) (C := RX3) (T := TX3) (N := 11) hx hb hts inX3_allClashes_X3 hown hK hP 0 rfl rfl 1 (by decide) (hts _ (List.mem_of_getElem? (i := 1) rfl)) (fun _ h9 => h9) rfl dX3_allClashes_10 ?_
  refine lv_iconst (v := 1) hx hb dX3_allClashes_13 (by decide) ?_
  refine x_aldq (v := .ref ((a 2) 0)) hx hb hK hP 2 2 rfl rfl (vp_c (by decide)) rfl dX3_allClashes_14 ?_
  refine va_get (D := D) (ci := 0) (v := .int (v.2.2 6 0)) (C := RX0) (T := TX0) (N := 8) hx hb hts inX3_allClashes_X0 hown hK hP 14 rfl rfl 6 (by decide) (hts _ (List.mem_of_getElem? (i := 2) rfl)) (fun _ h9 => h9) rfl dX3_allClashes_15 ?_
  refine lv_iadd hx hb dX3_allClashes_18 ?_
  have hr9 : ((v.2.1 6 0) + (v.2.2 6 0)) = (r_X3_allClashes v) := by rfl
  exact hret _ H locs _ ls hr9 hP hD hS dX3_allClashes_19

def w_X3_beginAnew (v : SV)  : SV := ((mkO (v.1 0) (fun _ => (1 : Int32)) (fun _ => (0 : Int32)) (fun _ => (0 : Int32)) (fun _ => (0 : Int32)) (0 : Int32) (0 : Int32) (0 : Int32) (0 : Int32) (0 : Int32)), (w_X0_beginAnew v.2.1 ((v.1 0) 1)), (w_X0_beginAnew v.2.2 ((v.1 0) 1)))
abbrev rX3_beginAnew : Room := { frames := 2, cells := 0, slots := 0, locals := 44 }
theorem inX3_beginAnew_X3 : ∀ w ∈ u_ws RX3 TX3 11, w ∈ wsX3_beginAnew := by decide +kernel
set_option maxHeartbeats 4000000 in
set_option maxRecDepth 100000 in
theorem c_X3_beginAnew (l : Launch) (D : va_G) (cy : Nat → ClassId) (a : Nat → Nat → Nat) (v : SV)  (sz : Nat)  : CN l yX3_beginAnew wsX3_beginAnew rX3_beginAnew D cy [.ref (a 0 0)] (cS cy a v) sz (cS cy a (w_X3_beginAnew v)) 0 0 := by
  refine st_n (cc := cX3_beginAnew) (maxL := 2) (by decide) rfl (Nat.le_of_ble_eq_true rfl) ?_
  intro pp e s m below meth c A Q ls hx hb hts hown hml hlocks hsz hP hK hD hE hA hl hret
  subst hsz
  have hown : s.vm.findClass RX3 = some m.cls := hown
  have hl : lv_has ls 2 [(0, .ref (a 0 0))] := hl
  obtain ⟨H, hH⟩ : ∃ H, H = s.heap := ⟨_, rfl⟩
  rw [← hH] at hP ⊢
  have hS : va_S A s.heap H [] := by rw [hH]; exact va_S.rf
  obtain ⟨locs, hlo⟩ : ∃ locs : List Loc, locs = [] := ⟨_, rfl⟩
  rw [← hlo] at hS ⊢
  refine lv_iconst (v := 0) hx hb dX3_beginAnew_0 (by decide) ?_
  refine lv_istore_n (lv' := [(1, .int (0 : Int32)), (0, .ref (a 0 0))]) hx hb dX3_beginAnew_1 rfl hl (by decide) rfl (fun ls hl => ?_)
  refine lv_iload_n hx hb dX3_beginAnew_2 rfl (lv_at hl 0 rfl) ?_
  refine lv_iconst (v := 2) hx hb dX3_beginAnew_3 (by decide) ?_
  refine lv_icmp_ge (tgt := 28) hx hb dX3_beginAnew_4 (by decide) (fun c_1 => absurd c_1 (by decide)) (fun c_1 => ?_)
  refine lv_aload_n hx hb dX3_beginAnew_7 rfl (lv_at hl 1 rfl) ?_
  refine va_get (D := D) (ci := 2) (v := .ref ((a 0) 2)) (C := RX3) (T := TX3) (N := 11) hx hb hts inX3_beginAnew_X3 hown hK hP 0 rfl rfl 1 (by decide) (hts _ (List.mem_of_getElem? (i := 1) rfl)) (fun _ h9 => h9) rfl dX3_beginAnew_8 ?_
  refine lv_iload_n hx hb dX3_beginAnew_11 rfl (lv_at hl 0 rfl) ?_
  refine x_aldq (v := .ref ((a 1) 0)) hx hb hK hP 2 2 rfl rfl (vp_c (by decide)) rfl dX3_beginAnew_12 ?_
  refine lv_aload_n hx hb dX3_beginAnew_13 rfl (lv_at hl 1 rfl) ?_
  refine va_get (D := D) (ci := 2) (v := .ref ((a 0) 1)) (C := RX3) (T := TX3) (N := 11) hx hb hts inX3_beginAnew_X3 hown hK hP 0 rfl rfl 0 (by decide) (hts _ (List.mem_of_getElem? (i := 2) rfl)) (fun _ h9 => h9) rfl dX3_beginAnew_14 ?_
  refine lv_iconst (v := 1) hx hb dX3_beginAnew_17 (by decide) ?_
  refine x_iald (f := (v.1 0)) (j := 1) hx hb hK hP 1 0 rfl rfl rfl (vp_c (by decide)) dX3_beginAnew_18 ?_
  refine cl_n (va_runV (As := [.int ((v.1 0) 1)]) (rest := []) ⟨hx, hb, hml, hown, hts⟩ (c_X0_beginAnew l D cy (a 1) v.2.1 ((v.1 0) 1) H.size) (cwV 1 hts gX3_beginAnew_X0_beginAnew rfl rfl rfl (by decide +kernel) ⟨Nat.le_of_ble_eq_true rfl, Nat.le_of_ble_eq_true rfl⟩) ⟨blU, va_recv hK hP (ci := 0) (q0 := 7) rfl rfl, preU hP hD (pmB (bS cy a v) 1 _ (cD cy (a 1) (w_X0_beginAnew v.2.1 ((v.1 0) 1))) rfl).1 hK hE hS hA⟩ rfl rfl hl.1 rfl (lv_room (Nat.le_of_ble_eq_true rfl)) dX3_beginAnew_19 ⟨Nat.le_of_ble_eq_true rfl, Nat.le_of_ble_eq_true rfl⟩) hP hD (pmB (bS cy a v) 1 _ (cD cy (a 1) (w_X0_beginAnew v.2.1 ((v.1 0) 1))) rfl).1 hS hA (fun H locs hP hD hS => ?_)
  have hP : va_P D vwCl (cS cy a (v.1, (w_X0_beginAnew v.2.1 ((v.1 0) 1)), v.2.2)) H := vP_perm hP (pmB (bS cy a v) 1 _ (cD cy (a 1) (w_X0_beginAnew v.2.1 ((v.1 0) 1))) rfl).2
  have hD : va_D A (cS cy a (v.1, (w_X0_beginAnew v.2.1 ((v.1 0) 1)), v.2.2)) := vD_perm hD (pmB (bS cy a v) 1 _ (cD cy (a 1) (w_X0_beginAnew v.2.1 ((v.1 0) 1))) rfl).2
  refine lv_iinc (v := (1 : Int32)) (lv' := [(1, .int (1 : Int32)), (0, .ref (a 0 0))]) hx hb dX3_beginAnew_22 hl (k := 0) rfl (by decide) (by decide) rfl (fun ls hl => ?_)
  refine lv_goto (tgt := 2) hx hb dX3_beginAnew_25 (by decide) ?_
  refine lv_iload_n hx hb dX3_beginAnew_2 rfl (lv_at hl 0 rfl) ?_
  refine lv_iconst (v := 2) hx hb dX3_beginAnew_3 (by decide) ?_
  refine lv_icmp_ge (tgt := 28) hx hb dX3_beginAnew_4 (by decide) (fun c_2 => absurd c_2 (by decide)) (fun c_2 => ?_)
  refine lv_aload_n hx hb dX3_beginAnew_7 rfl (lv_at hl 1 rfl) ?_
  refine va_get (D := D) (ci := 2) (v := .ref ((a 0) 2)) (C := RX3) (T := TX3) (N := 11) hx hb hts inX3_beginAnew_X3 hown hK hP 0 rfl rfl 1 (by decide) (hts _ (List.mem_of_getElem? (i := 1) rfl)) (fun _ h9 => h9) rfl dX3_beginAnew_8 ?_
  refine lv_iload_n hx hb dX3_beginAnew_11 rfl (lv_at hl 0 rfl) ?_
  refine x_aldq (v := .ref ((a 2) 0)) hx hb hK hP 2 2 rfl rfl (vp_c (by decide)) rfl dX3_beginAnew_12 ?_
  refine lv_aload_n hx hb dX3_beginAnew_13 rfl (lv_at hl 1 rfl) ?_
  refine va_get (D := D) (ci := 2) (v := .ref ((a 0) 1)) (C := RX3) (T := TX3) (N := 11) hx hb hts inX3_beginAnew_X3 hown hK hP 0 rfl rfl 0 (by decide) (hts _ (List.mem_of_getElem? (i := 2) rfl)) (fun _ h9 => h9) rfl dX3_beginAnew_14 ?_
  refine lv_iconst (v := 1) hx hb dX3_beginAnew_17 (by decide) ?_
  refine x_iald (f := (v.1 0)) (j := 1) hx hb hK hP 1 0 rfl rfl rfl (vp_c (by decide)) dX3_beginAnew_18 ?_
  refine cl_n (va_runV (As := [.int ((v.1 0) 1)]) (rest := []) ⟨hx, hb, hml, hown, hts⟩ (c_X0_beginAnew l D cy (a 2) v.2.2 ((v.1 0) 1) H.size) (cwV 1 hts gX3_beginAnew_X0_beginAnew rfl rfl rfl (by decide +kernel) ⟨Nat.le_of_ble_eq_true rfl, Nat.le_of_ble_eq_true rfl⟩) ⟨blU, va_recv hK hP (ci := 0) (q0 := 14) rfl rfl, preU hP hD (pmB (bS cy a (v.1, (w_X0_beginAnew v.2.1 ((v.1 0) 1)), v.2.2)) 2 _ (cD cy (a 2) (w_X0_beginAnew v.2.2 ((v.1 0) 1))) rfl).1 hK hE hS hA⟩ rfl rfl hl.1 rfl (lv_room (Nat.le_of_ble_eq_true rfl)) dX3_beginAnew_19 ⟨Nat.le_of_ble_eq_true rfl, Nat.le_of_ble_eq_true rfl⟩) hP hD (pmB (bS cy a (v.1, (w_X0_beginAnew v.2.1 ((v.1 0) 1)), v.2.2)) 2 _ (cD cy (a 2) (w_X0_beginAnew v.2.2 ((v.1 0) 1))) rfl).1 hS hA (fun H locs hP hD hS => ?_)
  have hP : va_P D vwCl (cS cy a (v.1, (w_X0_beginAnew v.2.1 ((v.1 0) 1)), (w_X0_beginAnew v.2.2 ((v.1 0) 1)))) H := vP_perm hP (pmB (bS cy a (v.1, (w_X0_beginAnew v.2.1 ((v.1 0) 1)), v.2.2)) 2 _ (cD cy (a 2) (w_X0_beginAnew v.2.2 ((v.1 0) 1))) rfl).2
  have hD : va_D A (cS cy a (v.1, (w_X0_beginAnew v.2.1 ((v.1 0) 1)), (w_X0_beginAnew v.2.2 ((v.1 0) 1)))) := vD_perm hD (pmB (bS cy a (v.1, (w_X0_beginAnew v.2.1 ((v.1 0) 1)), v.2.2)) 2 _ (cD cy (a 2) (w_X0_beginAnew v.2.2 ((v.1 0) 1))) rfl).2
  refine lv_iinc (v := (2 : Int32)) (lv' := [(1, .int (2 : Int32)), (0, .ref (a 0 0))]) hx hb dX3_beginAnew_22 hl (k := 0) rfl (by decide) (by decide) rfl (fun ls hl => ?_)
  refine lv_goto (tgt := 2) hx hb dX3_beginAnew_25 (by decide) ?_
  refine lv_iload_n hx hb dX3_beginAnew_2 rfl (lv_at hl 0 rfl) ?_
  refine lv_iconst (v := 2) hx hb dX3_beginAnew_3 (by decide) ?_
  refine lv_icmp_ge (tgt := 28) hx hb dX3_beginAnew_4 (by decide) (fun c_3 => ?_) (fun c_3 => absurd (by decide) c_3)
  refine lv_aload_n hx hb dX3_beginAnew_28 rfl (lv_at hl 1 rfl) ?_
  refine va_get (D := D) (ci := 2) (v := .ref ((a 0) 3)) (C := RX3) (T := TX3) (N := 11) hx hb hts inX3_beginAnew_X3 hown hK hP 0 rfl rfl 2 (by decide) (hts _ (List.mem_of_getElem? (i := 3) rfl)) (fun _ h9 => h9) rfl dX3_beginAnew_29 ?_
  refine lv_iconst (v := 1) hx hb dX3_beginAnew_32 (by decide) ?_
  refine x_fill (n := 26) ⟨hx, hb, hml, hown, hts⟩ (va_cwS 2 hts gX3_beginAnew_J7_fill_53178 rfl rfl rfl (by decide +kernel) ⟨Nat.le_of_ble_eq_true rfl, Nat.le_of_ble_eq_true rfl⟩) hK hP hD hS hA hE 3 rfl (by decide) hl.1 (lv_room (Nat.le_of_ble_eq_true rfl)) dX3_beginAnew_33 ⟨Nat.le_of_ble_eq_true rfl, Nat.le_of_ble_eq_true rfl⟩ (fun H locs hP hD hS => ?_)
  have hP : va_P D vwCl (cS cy a ((mkO (v.1 0) (fun _ => (1 : Int32)) (v.1 2) (v.1 3) (v.1 4) (v.1 5 0) (v.1 6 0) (v.1 7 0) (v.1 8 0) (v.1 9 0)), (w_X0_beginAnew v.2.1 ((v.1 0) 1)), (w_X0_beginAnew v.2.2 ((v.1 0) 1)))) H := hP
  have hD : va_D A (cS cy a ((mkO (v.1 0) (fun _ => (1 : Int32)) (v.1 2) (v.1 3) (v.1 4) (v.1 5 0) (v.1 6 0) (v.1 7 0) (v.1 8 0) (v.1 9 0)), (w_X0_beginAnew v.2.1 ((v.1 0) 1)), (w_X0_beginAnew v.2.2 ((v.1 0) 1)))) := hD
  refine lv_aload_n hx hb dX3_beginAnew_36 rfl (lv_at hl 1 rfl) ?_
  refine va_get (D := D) (ci := 2) (v := .ref ((a 0) 4)) (C := RX3) (T := TX3) (N := 11) hx hb hts inX3_beginAnew_X3 hown hK hP 0 rfl rfl 3 (by decide) (hts _ (List.mem_of_getElem? (i := 4) rfl)) (fun _ h9 => h9) rfl dX3_beginAnew_37 ?_
  refine lv_iconst (v := 0) hx hb dX3_beginAnew_40 (by decide) ?_
  refine x_fill (n := 26) ⟨hx, hb, hml, hown, hts⟩ (va_cwS 2 hts gX3_beginAnew_J7_fill_53178 rfl rfl rfl (by decide +kernel) ⟨Nat.le_of_ble_eq_true rfl, Nat.le_of_ble_eq_true rfl⟩) hK hP hD hS hA hE 4 rfl (by decide) hl.1 (lv_room (Nat.le_of_ble_eq_true rfl)) dX3_beginAnew_41 ⟨Nat.le_of_ble_eq_true rfl, Nat.le_of_ble_eq_true rfl⟩ (fun H locs hP hD hS => ?_)
  have hP : va_P D vwCl (cS cy a ((mkO (v.1 0) (fun _ => (1 : Int32)) (fun _ => (0 : Int32)) (v.1 3) (v.1 4) (v.1 5 0) (v.1 6 0) (v.1 7 0) (v.1 8 0) (v.1 9 0)), (w_X0_beginAnew v.2.1 ((v.1 0) 1)), (w_X0_beginAnew v.2.2 ((v.1 0) 1)))) H := hP
  have hD : va_D A (cS cy a ((mkO (v.1 0) (fun _ => (1 : Int32)) (fun _ => (0 : Int32)) (v.1 3) (v.1 4) (v.1 5 0) (v.1 6 0) (v.1 7 0) (v.1 8 0) (v.1 9 0)), (w_X0_beginAnew v.2.1 ((v.1 0) 1)), (w_X0_beginAnew v.2.2 ((v.1 0) 1)))) := hD
  refine lv_aload_n hx hb dX3_beginAnew_44 rfl (lv_at hl 1 rfl) ?_
  refine va_get (D := D) (ci := 2) (v := .ref ((a 0) 5)) (C := RX3) (T := TX3) (N := 11) hx hb hts inX3_beginAnew_X3 hown hK hP 0 rfl rfl 4 (by decide) (hts _ (List.mem_of_getElem? (i := 5) rfl)) (fun _ h9 => h9) rfl dX3_beginAnew_45 ?_
  refine lv_iconst (v := 0) hx hb dX3_beginAnew_48 (by decide) ?_
  refine x_fill (n := 26) ⟨hx, hb, hml, hown, hts⟩ (va_cwS 2 hts gX3_beginAnew_J7_fill_53178 rfl rfl rfl (by decide +kernel) ⟨Nat.le_of_ble_eq_true rfl, Nat.le_of_ble_eq_true rfl⟩) hK hP hD hS hA hE 5 rfl (by decide) hl.1 (lv_room (Nat.le_of_ble_eq_true rfl)) dX3_beginAnew_49 ⟨Nat.le_of_ble_eq_true rfl, Nat.le_of_ble_eq_true rfl⟩ (fun H locs hP hD hS => ?_)
  have hP : va_P D vwCl (cS cy a ((mkO (v.1 0) (fun _ => (1 : Int32)) (fun _ => (0 : Int32)) (fun _ => (0 : Int32)) (v.1 4) (v.1 5 0) (v.1 6 0) (v.1 7 0) (v.1 8 0) (v.1 9 0)), (w_X0_beginAnew v.2.1 ((v.1 0) 1)), (w_X0_beginAnew v.2.2 ((v.1 0) 1)))) H := hP
  have hD : va_D A (cS cy a ((mkO (v.1 0) (fun _ => (1 : Int32)) (fun _ => (0 : Int32)) (fun _ => (0 : Int32)) (v.1 4) (v.1 5 0) (v.1 6 0) (v.1 7 0) (v.1 8 0) (v.1 9 0)), (w_X0_beginAnew v.2.1 ((v.1 0) 1)), (w_X0_beginAnew v.2.2 ((v.1 0) 1)))) := hD
  refine lv_aload_n hx hb dX3_beginAnew_52 rfl (lv_at hl 1 rfl) ?_
  refine va_get (D := D) (ci := 2) (v := .ref ((a 0) 6)) (C := RX3) (T := TX3) (N := 11) hx hb hts inX3_beginAnew_X3 hown hK hP 0 rfl rfl 5 (by decide) (hts _ (List.mem_of_getElem? (i := 6) rfl)) (fun _ h9 => h9) rfl dX3_beginAnew_53 ?_
  refine lv_iconst (v := 0) hx hb dX3_beginAnew_56 (by decide) ?_
  refine x_fill (n := 26) ⟨hx, hb, hml, hown, hts⟩ (va_cwS 2 hts gX3_beginAnew_J7_fill_53178 rfl rfl rfl (by decide +kernel) ⟨Nat.le_of_ble_eq_true rfl, Nat.le_of_ble_eq_true rfl⟩) hK hP hD hS hA hE 6 rfl (by decide) hl.1 (lv_room (Nat.le_of_ble_eq_true rfl)) dX3_beginAnew_57 ⟨Nat.le_of_ble_eq_true rfl, Nat.le_of_ble_eq_true rfl⟩ (fun H locs hP hD hS => ?_)
  have hP : va_P D vwCl (cS cy a ((mkO (v.1 0) (fun _ => (1 : Int32)) (fun _ => (0 : Int32)) (fun _ => (0 : Int32)) (fun _ => (0 : Int32)) (v.1 5 0) (v.1 6 0) (v.1 7 0) (v.1 8 0) (v.1 9 0)), (w_X0_beginAnew v.2.1 ((v.1 0) 1)), (w_X0_beginAnew v.2.2 ((v.1 0) 1)))) H := hP
  have hD : va_D A (cS cy a ((mkO (v.1 0) (fun _ => (1 : Int32)) (fun _ => (0 : Int32)) (fun _ => (0 : Int32)) (fun _ => (0 : Int32)) (v.1 5 0) (v.1 6 0) (v.1 7 0) (v.1 8 0) (v.1 9 0)), (w_X0_beginAnew v.2.1 ((v.1 0) 1)), (w_X0_beginAnew v.2.2 ((v.1 0) 1)))) := hD
  refine lv_aload_n hx hb dX3_beginAnew_60 rfl (lv_at hl 1 rfl) ?_
  refine lv_iconst (v := 0) hx hb dX3_beginAnew_61 (by decide) ?_
  refine va_put (D := D) (ci := 2) (v := .int (0 : Int32)) (ty := .int) (C := RX3) (T := TX3) (N := 11) hx hb hts inX3_beginAnew_X3 tyX3 tyX3_ok nmX3 hown hK hP hD hS 0 rfl rfl 6 (by decide) (hts _ (List.mem_of_getElem? (i := 7) rfl)) (fun _ h9 => h9) rfl (by decide +kernel) rfl rfl (Nat.le_of_ble_eq_true rfl) dX3_beginAnew_62 (fun H locs hP hD hS => ?_)
  have hP : va_P D vwCl (cS cy a ((mkO (v.1 0) (fun _ => (1 : Int32)) (fun _ => (0 : Int32)) (fun _ => (0 : Int32)) (fun _ => (0 : Int32)) (0 : Int32) (v.1 6 0) (v.1 7 0) (v.1 8 0) (v.1 9 0)), (w_X0_beginAnew v.2.1 ((v.1 0) 1)), (w_X0_beginAnew v.2.2 ((v.1 0) 1)))) H := hP
  have hD : va_D A (cS cy a ((mkO (v.1 0) (fun _ => (1 : Int32)) (fun _ => (0 : Int32)) (fun _ => (0 : Int32)) (fun _ => (0 : Int32)) (0 : Int32) (v.1 6 0) (v.1 7 0) (v.1 8 0) (v.1 9 0)), (w_X0_beginAnew v.2.1 ((v.1 0) 1)), (w_X0_beginAnew v.2.2 ((v.1 0) 1)))) := hD
  refine lv_aload_n hx hb dX3_beginAnew_65 rfl (lv_at hl 1 rfl) ?_
  refine lv_iconst (v := 0) hx hb dX3_beginAnew_66 (by decide) ?_
  refine va_put (D := D) (ci := 2) (v := .int (0 : Int32)) (ty := .int) (C := RX3) (T := TX3) (N := 11) hx hb hts inX3_beginAnew_X3 tyX3 tyX3_ok nmX3 hown hK hP hD hS 0 rfl rfl 7 (by decide) (hts _ (List.mem_of_getElem? (i := 8) rfl)) (fun _ h9 => h9) rfl (by decide +kernel) rfl rfl (Nat.le_of_ble_eq_true rfl) dX3_beginAnew_67 (fun H locs hP hD hS => ?_)
  have hP : va_P D vwCl (cS cy a ((mkO (v.1 0) (fun _ => (1 : Int32)) (fun _ => (0 : Int32)) (fun _ => (0 : Int32)) (fun _ => (0 : Int32)) (0 : Int32) (0 : Int32) (v.1 7 0) (v.1 8 0) (v.1 9 0)), (w_X0_beginAnew v.2.1 ((v.1 0) 1)), (w_X0_beginAnew v.2.2 ((v.1 0) 1)))) H := hP
  have hD : va_D A (cS cy a ((mkO (v.1 0) (fun _ => (1 : Int32)) (fun _ => (0 : Int32)) (fun _ => (0 : Int32)) (fun _ => (0 : Int32)) (0 : Int32) (0 : Int32) (v.1 7 0) (v.1 8 0) (v.1 9 0)), (w_X0_beginAnew v.2.1 ((v.1 0) 1)), (w_X0_beginAnew v.2.2 ((v.1 0) 1)))) := hD
  refine lv_aload_n hx hb dX3_beginAnew_70 rfl (lv_at hl 1 rfl) ?_
  refine lv_iconst (v := 0) hx hb dX3_beginAnew_71 (by decide) ?_
  refine va_put (D := D) (ci := 2) (v := .int (0 : Int32)) (ty := .int) (C := RX3) (T := TX3) (N := 11) hx hb hts inX3_beginAnew_X3 tyX3 tyX3_ok nmX3 hown hK hP hD hS 0 rfl rfl 8 (by decide) (hts _ (List.mem_of_getElem? (i := 9) rfl)) (fun _ h9 => h9) rfl (by decide +kernel) rfl rfl (Nat.le_of_ble_eq_true rfl) dX3_beginAnew_72 (fun H locs hP hD hS => ?_)
  have hP : va_P D vwCl (cS cy a ((mkO (v.1 0) (fun _ => (1 : Int32)) (fun _ => (0 : Int32)) (fun _ => (0 : Int32)) (fun _ => (0 : Int32)) (0 : Int32) (0 : Int32) (0 : Int32) (v.1 8 0) (v.1 9 0)), (w_X0_beginAnew v.2.1 ((v.1 0) 1)), (w_X0_beginAnew v.2.2 ((v.1 0) 1)))) H := hP
  have hD : va_D A (cS cy a ((mkO (v.1 0) (fun _ => (1 : Int32)) (fun _ => (0 : Int32)) (fun _ => (0 : Int32)) (fun _ => (0 : Int32)) (0 : Int32) (0 : Int32) (0 : Int32) (v.1 8 0) (v.1 9 0)), (w_X0_beginAnew v.2.1 ((v.1 0) 1)), (w_X0_beginAnew v.2.2 ((v.1 0) 1)))) := hD
  refine lv_aload_n hx hb dX3_beginAnew_75 rfl (lv_at hl 1 rfl) ?_
  refine lv_iconst (v := 0) hx hb dX3_beginAnew_76 (by decide) ?_
  refine va_put (D := D) (ci := 2) (v := .int (0 : Int32)) (ty := .int) (C := RX3) (T := TX3) (N := 11) hx hb hts inX3_beginAnew_X3 tyX3 tyX3_ok nmX3 hown hK hP hD hS 0 rfl rfl 9 (by decide) (hts _ (List.mem_of_getElem? (i := 10) rfl)) (fun _ h9 => h9) rfl (by decide +kernel) rfl rfl (Nat.le_of_ble_eq_true rfl) dX3_beginAnew_77 (fun H locs hP hD hS => ?_)
  have hP : va_P D vwCl (cS cy a ((mkO (v.1 0) (fun _ => (1 : Int32)) (fun _ => (0 : Int32)) (fun _ => (0 : Int32)) (fun _ => (0 : Int32)) (0 : Int32) (0 : Int32) (0 : Int32) (0 : Int32) (v.1 9 0)), (w_X0_beginAnew v.2.1 ((v.1 0) 1)), (w_X0_beginAnew v.2.2 ((v.1 0) 1)))) H := hP
  have hD : va_D A (cS cy a ((mkO (v.1 0) (fun _ => (1 : Int32)) (fun _ => (0 : Int32)) (fun _ => (0 : Int32)) (fun _ => (0 : Int32)) (0 : Int32) (0 : Int32) (0 : Int32) (0 : Int32) (v.1 9 0)), (w_X0_beginAnew v.2.1 ((v.1 0) 1)), (w_X0_beginAnew v.2.2 ((v.1 0) 1)))) := hD
  refine lv_aload_n hx hb dX3_beginAnew_80 rfl (lv_at hl 1 rfl) ?_
  refine lv_iconst (v := 0) hx hb dX3_beginAnew_81 (by decide) ?_
  refine va_put (D := D) (ci := 2) (v := .int (0 : Int32)) (ty := .int) (C := RX3) (T := TX3) (N := 11) hx hb hts inX3_beginAnew_X3 tyX3 tyX3_ok nmX3 hown hK hP hD hS 0 rfl rfl 10 (by decide) (hts _ (List.mem_of_getElem? (i := 11) rfl)) (fun _ h9 => h9) rfl (by decide +kernel) rfl rfl (Nat.le_of_ble_eq_true rfl) dX3_beginAnew_82 (fun H locs hP hD hS => ?_)
  have hP : va_P D vwCl (cS cy a ((mkO (v.1 0) (fun _ => (1 : Int32)) (fun _ => (0 : Int32)) (fun _ => (0 : Int32)) (fun _ => (0 : Int32)) (0 : Int32) (0 : Int32) (0 : Int32) (0 : Int32) (0 : Int32)), (w_X0_beginAnew v.2.1 ((v.1 0) 1)), (w_X0_beginAnew v.2.2 ((v.1 0) 1)))) H := hP
  have hD : va_D A (cS cy a ((mkO (v.1 0) (fun _ => (1 : Int32)) (fun _ => (0 : Int32)) (fun _ => (0 : Int32)) (fun _ => (0 : Int32)) (0 : Int32) (0 : Int32) (0 : Int32) (0 : Int32) (0 : Int32)), (w_X0_beginAnew v.2.1 ((v.1 0) 1)), (w_X0_beginAnew v.2.2 ((v.1 0) 1)))) := hD
  have hw9 : (w_X3_beginAnew v) = ((mkO (v.1 0) (fun _ => (1 : Int32)) (fun _ => (0 : Int32)) (fun _ => (0 : Int32)) (fun _ => (0 : Int32)) (0 : Int32) (0 : Int32) (0 : Int32) (0 : Int32) (0 : Int32)), (w_X0_beginAnew v.2.1 ((v.1 0) 1)), (w_X0_beginAnew v.2.2 ((v.1 0) 1))) := by rfl
  exact hret H locs _ ls (by rw [hw9]; exact hP) (by rw [hw9]; exact hD) hS dX3_beginAnew_85

abbrev rX3_copyFrom : Room := { frames := 2, cells := 0, slots := 0, locals := 81 }
theorem inX3_copyFrom_X3 : ∀ w ∈ u_ws RX3 TX3 11, w ∈ wsX3_copyFrom := by decide +kernel
set_option maxHeartbeats 4000000 in
set_option maxRecDepth 100000 in
theorem c_X3_copyFrom (l : Launch) (D : va_G) (cy : Nat → ClassId) (a : Nat → Nat → Nat) (b : Nat → Nat → Nat) (v : SV) (u : SV)  (sz : Nat)  : CN l yX3_copyFrom wsX3_copyFrom rX3_copyFrom D cy [.ref (a 0 0), .ref (b 0 0)] (cS cy a v ++ cS cy b u) sz (cS cy a u ++ cS cy b u) 0 0 := by
  refine st_n (cc := cX3_copyFrom) (maxL := 3) (by decide) rfl (Nat.le_of_ble_eq_true rfl) ?_
  intro pp e s m below meth c A Q ls hx hb hts hown hml hlocks hsz hP hK hD hE hA hl hret
  subst hsz
  have hown : s.vm.findClass RX3 = some m.cls := hown
  have hl : lv_has ls 3 [(0, .ref (a 0 0)), (1, .ref (b 0 0))] := hl
  obtain ⟨H, hH⟩ : ∃ H, H = s.heap := ⟨_, rfl⟩
  rw [← hH] at hP ⊢
  have hS : va_S A s.heap H [] := by rw [hH]; exact va_S.rf
  obtain ⟨locs, hlo⟩ : ∃ locs : List Loc, locs = [] := ⟨_, rfl⟩
  rw [← hlo] at hS ⊢
  refine lv_aload_n hx hb dX3_copyFrom_0 rfl (lv_at hl 1 rfl) ?_
  refine va_get (D := D) (ci := 2) (v := .ref ((b 0) 1)) (C := RX3) (T := TX3) (N := 11) hx hb hts inX3_copyFrom_X3 hown hK hP 21 rfl rfl 0 (by decide) (hts _ (List.mem_of_getElem? (i := 1) rfl)) (fun _ h9 => h9) rfl dX3_copyFrom_1 ?_
  refine lv_iconst (v := 0) hx hb dX3_copyFrom_4 (by decide) ?_
  refine lv_aload_n hx hb dX3_copyFrom_5 rfl (lv_at hl 0 rfl) ?_
  refine va_get (D := D) (ci := 2) (v := .ref ((a 0) 1)) (C := RX3) (T := TX3) (N := 11) hx hb hts inX3_copyFrom_X3 hown hK hP 0 rfl rfl 0 (by decide) (hts _ (List.mem_of_getElem? (i := 1) rfl)) (fun _ h9 => h9) rfl dX3_copyFrom_6 ?_
  refine lv_iconst (v := 0) hx hb dX3_copyFrom_9 (by decide) ?_
  refine lv_iconst (v := 3) hx hb dX3_copyFrom_10 (by decide) ?_
  refine x_cpy (N := 3) hx hb (hml.trans hl.1.symm) hown (hts _ (List.mem_of_getElem? (i := 2) rfl)) (hts _ (List.mem_of_getElem? (i := 3) rfl)) (hts _ (List.mem_of_getElem? (i := 4) rfl)) (hts _ (List.mem_of_getElem? (i := 5) rfl)) hK hP hD hS 22 1 0 rfl rfl rfl (by decide) (by decide) (Nat.le_of_ble_eq_true rfl) (Nat.le_of_ble_eq_true rfl) dX3_copyFrom_11 (fun H locs hP hD hS => ?_)
  have hP : va_P D vwCl (cS cy a ((mkO (u.1 0) (v.1 1) (v.1 2) (v.1 3) (v.1 4) (v.1 5 0) (v.1 6 0) (v.1 7 0) (v.1 8 0) (v.1 9 0)), v.2.1, v.2.2) ++ cS cy b u) H := hP
  have hD : va_D A (cS cy a ((mkO (u.1 0) (v.1 1) (v.1 2) (v.1 3) (v.1 4) (v.1 5 0) (v.1 6 0) (v.1 7 0) (v.1 8 0) (v.1 9 0)), v.2.1, v.2.2) ++ cS cy b u) := hD
  refine lv_iconst (v := 0) hx hb dX3_copyFrom_14 (by decide) ?_
  refine lv_istore_n (lv' := [(2, .int (0 : Int32)), (0, .ref (a 0 0)), (1, .ref (b 0 0))]) hx hb dX3_copyFrom_15 rfl hl (by decide) rfl (fun ls hl => ?_)
  refine lv_iload_n hx hb dX3_copyFrom_16 rfl (lv_at hl 0 rfl) ?_
  refine lv_iconst (v := 2) hx hb dX3_copyFrom_17 (by decide) ?_
  refine lv_icmp_ge (tgt := 42) hx hb dX3_copyFrom_18 (by decide) (fun c_1 => absurd c_1 (by decide)) (fun c_1 => ?_)
  refine lv_aload_n hx hb dX3_copyFrom_21 rfl (lv_at hl 1 rfl) ?_
  refine va_get (D := D) (ci := 2) (v := .ref ((a 0) 2)) (C := RX3) (T := TX3) (N := 11) hx hb hts inX3_copyFrom_X3 hown hK hP 0 rfl rfl 1 (by decide) (hts _ (List.mem_of_getElem? (i := 6) rfl)) (fun _ h9 => h9) rfl dX3_copyFrom_22 ?_
  refine lv_iload_n hx hb dX3_copyFrom_25 rfl (lv_at hl 0 rfl) ?_
  refine x_aldq (v := .ref ((a 1) 0)) hx hb hK hP 2 2 rfl rfl (vp_c (by decide)) rfl dX3_copyFrom_26 ?_
  refine lv_aload_n hx hb dX3_copyFrom_27 rfl (lv_at hl 2 rfl) ?_
  refine va_get (D := D) (ci := 2) (v := .ref ((b 0) 2)) (C := RX3) (T := TX3) (N := 11) hx hb hts inX3_copyFrom_X3 hown hK hP 21 rfl rfl 1 (by decide) (hts _ (List.mem_of_getElem? (i := 6) rfl)) (fun _ h9 => h9) rfl dX3_copyFrom_28 ?_
  refine lv_iload_n hx hb dX3_copyFrom_31 rfl (lv_at hl 0 rfl) ?_
  refine x_aldq (v := .ref ((b 1) 0)) hx hb hK hP 23 2 rfl rfl (vp_c (by decide)) rfl dX3_copyFrom_32 ?_
  refine cl_n (va_runV (As := [.ref ((b 1) 0)]) (rest := []) ⟨hx, hb, hml, hown, hts⟩ (c_X0_copyFrom l D cy (a 1) (b 1) v.2.1 u.2.1 H.size) (cwV 1 hts gX3_copyFrom_X0_copyFrom rfl rfl rfl (by decide +kernel) ⟨Nat.le_of_ble_eq_true rfl, Nat.le_of_ble_eq_true rfl⟩) ⟨blU, va_recv hK hP (ci := 0) (q0 := 7) rfl rfl, preU hP hD (pmB2 (bS cy a ((mkO (u.1 0) (v.1 1) (v.1 2) (v.1 3) (v.1 4) (v.1 5 0) (v.1 6 0) (v.1 7 0) (v.1 8 0) (v.1 9 0)), v.2.1, v.2.2) ++ bS cy b u) 1 3 _ _ (cD cy (a 1) u.2.1) (cD cy (b 1) u.2.1) rfl rfl).1 hK hE hS hA⟩ rfl rfl hl.1 rfl (lv_room (Nat.le_of_ble_eq_true rfl)) dX3_copyFrom_33 ⟨Nat.le_of_ble_eq_true rfl, Nat.le_of_ble_eq_true rfl⟩) hP hD (pmB2 (bS cy a ((mkO (u.1 0) (v.1 1) (v.1 2) (v.1 3) (v.1 4) (v.1 5 0) (v.1 6 0) (v.1 7 0) (v.1 8 0) (v.1 9 0)), v.2.1, v.2.2) ++ bS cy b u) 1 3 _ _ (cD cy (a 1) u.2.1) (cD cy (b 1) u.2.1) rfl rfl).1 hS hA (fun H locs hP hD hS => ?_)
  have hP : va_P D vwCl (cS cy a ((mkO (u.1 0) (v.1 1) (v.1 2) (v.1 3) (v.1 4) (v.1 5 0) (v.1 6 0) (v.1 7 0) (v.1 8 0) (v.1 9 0)), u.2.1, v.2.2) ++ cS cy b u) H := vP_perm hP ((pmB2 (bS cy a ((mkO (u.1 0) (v.1 1) (v.1 2) (v.1 3) (v.1 4) (v.1 5 0) (v.1 6 0) (v.1 7 0) (v.1 8 0) (v.1 9 0)), v.2.1, v.2.2) ++ bS cy b u) 1 3 _ _ (cD cy (a 1) u.2.1) (cD cy (b 1) u.2.1) rfl rfl).2.trans (pmB (bS cy a ((mkO (u.1 0) (v.1 1) (v.1 2) (v.1 3) (v.1 4) (v.1 5 0) (v.1 6 0) (v.1 7 0) (v.1 8 0) (v.1 9 0)), u.2.1, v.2.2) ++ bS cy b u) 1 _ (cD cy (a 1) u.2.1) rfl).1.symm)
  have hD : va_D A (cS cy a ((mkO (u.1 0) (v.1 1) (v.1 2) (v.1 3) (v.1 4) (v.1 5 0) (v.1 6 0) (v.1 7 0) (v.1 8 0) (v.1 9 0)), u.2.1, v.2.2) ++ cS cy b u) := vD_perm hD ((pmB2 (bS cy a ((mkO (u.1 0) (v.1 1) (v.1 2) (v.1 3) (v.1 4) (v.1 5 0) (v.1 6 0) (v.1 7 0) (v.1 8 0) (v.1 9 0)), v.2.1, v.2.2) ++ bS cy b u) 1 3 _ _ (cD cy (a 1) u.2.1) (cD cy (b 1) u.2.1) rfl rfl).2.trans (pmB (bS cy a ((mkO (u.1 0) (v.1 1) (v.1 2) (v.1 3) (v.1 4) (v.1 5 0) (v.1 6 0) (v.1 7 0) (v.1 8 0) (v.1 9 0)), u.2.1, v.2.2) ++ bS cy b u) 1 _ (cD cy (a 1) u.2.1) rfl).1.symm)
  refine lv_iinc (v := (1 : Int32)) (lv' := [(2, .int (1 : Int32)), (0, .ref (a 0 0)), (1, .ref (b 0 0))]) hx hb dX3_copyFrom_36 hl (k := 0) rfl (by decide) (by decide) rfl (fun ls hl => ?_)
  refine lv_goto (tgt := 16) hx hb dX3_copyFrom_39 (by decide) ?_
  refine lv_iload_n hx hb dX3_copyFrom_16 rfl (lv_at hl 0 rfl) ?_
  refine lv_iconst (v := 2) hx hb dX3_copyFrom_17 (by decide) ?_
  refine lv_icmp_ge (tgt := 42) hx hb dX3_copyFrom_18 (by decide) (fun c_2 => absurd c_2 (by decide)) (fun c_2 => ?_)
  refine lv_aload_n hx hb dX3_copyFrom_21 rfl (lv_at hl 1 rfl) ?_
  refine va_get (D := D) (ci := 2) (v := .ref ((a 0) 2)) (C := RX3) (T := TX3) (N := 11) hx hb hts inX3_copyFrom_X3 hown hK hP 0 rfl rfl 1 (by decide) (hts _ (List.mem_of_getElem? (i := 6) rfl)) (fun _ h9 => h9) rfl dX3_copyFrom_22 ?_
  refine lv_iload_n hx hb dX3_copyFrom_25 rfl (lv_at hl 0 rfl) ?_
  refine x_aldq (v := .ref ((a 2) 0)) hx hb hK hP 2 2 rfl rfl (vp_c (by decide)) rfl dX3_copyFrom_26 ?_
  refine lv_aload_n hx hb dX3_copyFrom_27 rfl (lv_at hl 2 rfl) ?_
  refine va_get (D := D) (ci := 2) (v := .ref ((b 0) 2)) (C := RX3) (T := TX3) (N := 11) hx hb hts inX3_copyFrom_X3 hown hK hP 21 rfl rfl 1 (by decide) (hts _ (List.mem_of_getElem? (i := 6) rfl)) (fun _ h9 => h9) rfl dX3_copyFrom_28 ?_
  refine lv_iload_n hx hb dX3_copyFrom_31 rfl (lv_at hl 0 rfl) ?_
  refine x_aldq (v := .ref ((b 2) 0)) hx hb hK hP 23 2 rfl rfl (vp_c (by decide)) rfl dX3_copyFrom_32 ?_
  refine cl_n (va_runV (As := [.ref ((b 2) 0)]) (rest := []) ⟨hx, hb, hml, hown, hts⟩ (c_X0_copyFrom l D cy (a 2) (b 2) v.2.2 u.2.2 H.size) (cwV 1 hts gX3_copyFrom_X0_copyFrom rfl rfl rfl (by decide +kernel) ⟨Nat.le_of_ble_eq_true rfl, Nat.le_of_ble_eq_true rfl⟩) ⟨blU, va_recv hK hP (ci := 0) (q0 := 14) rfl rfl, preU hP hD (pmB2 (bS cy a ((mkO (u.1 0) (v.1 1) (v.1 2) (v.1 3) (v.1 4) (v.1 5 0) (v.1 6 0) (v.1 7 0) (v.1 8 0) (v.1 9 0)), u.2.1, v.2.2) ++ bS cy b u) 2 4 _ _ (cD cy (a 2) u.2.2) (cD cy (b 2) u.2.2) rfl rfl).1 hK hE hS hA⟩ rfl rfl hl.1 rfl (lv_room (Nat.le_of_ble_eq_true rfl)) dX3_copyFrom_33 ⟨Nat.le_of_ble_eq_true rfl, Nat.le_of_ble_eq_true rfl⟩) hP hD (pmB2 (bS cy a ((mkO (u.1 0) (v.1 1) (v.1 2) (v.1 3) (v.1 4) (v.1 5 0) (v.1 6 0) (v.1 7 0) (v.1 8 0) (v.1 9 0)), u.2.1, v.2.2) ++ bS cy b u) 2 4 _ _ (cD cy (a 2) u.2.2) (cD cy (b 2) u.2.2) rfl rfl).1 hS hA (fun H locs hP hD hS => ?_)
  have hP : va_P D vwCl (cS cy a ((mkO (u.1 0) (v.1 1) (v.1 2) (v.1 3) (v.1 4) (v.1 5 0) (v.1 6 0) (v.1 7 0) (v.1 8 0) (v.1 9 0)), u.2.1, u.2.2) ++ cS cy b u) H := vP_perm hP ((pmB2 (bS cy a ((mkO (u.1 0) (v.1 1) (v.1 2) (v.1 3) (v.1 4) (v.1 5 0) (v.1 6 0) (v.1 7 0) (v.1 8 0) (v.1 9 0)), u.2.1, v.2.2) ++ bS cy b u) 2 4 _ _ (cD cy (a 2) u.2.2) (cD cy (b 2) u.2.2) rfl rfl).2.trans (pmB (bS cy a ((mkO (u.1 0) (v.1 1) (v.1 2) (v.1 3) (v.1 4) (v.1 5 0) (v.1 6 0) (v.1 7 0) (v.1 8 0) (v.1 9 0)), u.2.1, u.2.2) ++ bS cy b u) 2 _ (cD cy (a 2) u.2.2) rfl).1.symm)
  have hD : va_D A (cS cy a ((mkO (u.1 0) (v.1 1) (v.1 2) (v.1 3) (v.1 4) (v.1 5 0) (v.1 6 0) (v.1 7 0) (v.1 8 0) (v.1 9 0)), u.2.1, u.2.2) ++ cS cy b u) := vD_perm hD ((pmB2 (bS cy a ((mkO (u.1 0) (v.1 1) (v.1 2) (v.1 3) (v.1 4) (v.1 5 0) (v.1 6 0) (v.1 7 0) (v.1 8 0) (v.1 9 0)), u.2.1, v.2.2) ++ bS cy b u) 2 4 _ _ (cD cy (a 2) u.2.2) (cD cy (b 2) u.2.2) rfl rfl).2.trans (pmB (bS cy a ((mkO (u.1 0) (v.1 1) (v.1 2) (v.1 3) (v.1 4) (v.1 5 0) (v.1 6 0) (v.1 7 0) (v.1 8 0) (v.1 9 0)), u.2.1, u.2.2) ++ bS cy b u) 2 _ (cD cy (a 2) u.2.2) rfl).1.symm)
  refine lv_iinc (v := (2 : Int32)) (lv' := [(2, .int (2 : Int32)), (0, .ref (a 0 0)), (1, .ref (b 0 0))]) hx hb dX3_copyFrom_36 hl (k := 0) rfl (by decide) (by decide) rfl (fun ls hl => ?_)
  refine lv_goto (tgt := 16) hx hb dX3_copyFrom_39 (by decide) ?_
  refine lv_iload_n hx hb dX3_copyFrom_16 rfl (lv_at hl 0 rfl) ?_
  refine lv_iconst (v := 2) hx hb dX3_copyFrom_17 (by decide) ?_
  refine lv_icmp_ge (tgt := 42) hx hb dX3_copyFrom_18 (by decide) (fun c_3 => ?_) (fun c_3 => absurd (by decide) c_3)
  refine lv_aload_n hx hb dX3_copyFrom_42 rfl (lv_at hl 2 rfl) ?_
  refine va_get (D := D) (ci := 2) (v := .ref ((b 0) 3)) (C := RX3) (T := TX3) (N := 11) hx hb hts inX3_copyFrom_X3 hown hK hP 21 rfl rfl 2 (by decide) (hts _ (List.mem_of_getElem? (i := 7) rfl)) (fun _ h9 => h9) rfl dX3_copyFrom_43 ?_
  refine lv_iconst (v := 0) hx hb dX3_copyFrom_46 (by decide) ?_
  refine lv_aload_n hx hb dX3_copyFrom_47 rfl (lv_at hl 1 rfl) ?_
  refine va_get (D := D) (ci := 2) (v := .ref ((a 0) 3)) (C := RX3) (T := TX3) (N := 11) hx hb hts inX3_copyFrom_X3 hown hK hP 0 rfl rfl 2 (by decide) (hts _ (List.mem_of_getElem? (i := 7) rfl)) (fun _ h9 => h9) rfl dX3_copyFrom_48 ?_
  refine lv_iconst (v := 0) hx hb dX3_copyFrom_51 (by decide) ?_
  refine lv_bipush (v := 26) hx hb dX3_copyFrom_52 (by decide) ?_
  refine x_cpy (N := 26) hx hb (hml.trans hl.1.symm) hown (hts _ (List.mem_of_getElem? (i := 2) rfl)) (hts _ (List.mem_of_getElem? (i := 3) rfl)) (hts _ (List.mem_of_getElem? (i := 4) rfl)) (hts _ (List.mem_of_getElem? (i := 5) rfl)) hK hP hD hS 24 3 0 rfl rfl rfl (by decide) (by decide) (Nat.le_of_ble_eq_true rfl) (Nat.le_of_ble_eq_true rfl) dX3_copyFrom_54 (fun H locs hP hD hS => ?_)
  have hP : va_P D vwCl (cS cy a ((mkO (u.1 0) (u.1 1) (v.1 2) (v.1 3) (v.1 4) (v.1 5 0) (v.1 6 0) (v.1 7 0) (v.1 8 0) (v.1 9 0)), u.2.1, u.2.2) ++ cS cy b u) H := hP
  have hD : va_D A (cS cy a ((mkO (u.1 0) (u.1 1) (v.1 2) (v.1 3) (v.1 4) (v.1 5 0) (v.1 6 0) (v.1 7 0) (v.1 8 0) (v.1 9 0)), u.2.1, u.2.2) ++ cS cy b u) := hD
  refine lv_aload_n hx hb dX3_copyFrom_57 rfl (lv_at hl 2 rfl) ?_
  refine va_get (D := D) (ci := 2) (v := .ref ((b 0) 4)) (C := RX3) (T := TX3) (N := 11) hx hb hts inX3_copyFrom_X3 hown hK hP 21 rfl rfl 3 (by decide) (hts _ (List.mem_of_getElem? (i := 8) rfl)) (fun _ h9 => h9) rfl dX3_copyFrom_58 ?_
  refine lv_iconst (v := 0) hx hb dX3_copyFrom_61 (by decide) ?_
  refine lv_aload_n hx hb dX3_copyFrom_62 rfl (lv_at hl 1 rfl) ?_
  refine va_get (D := D) (ci := 2) (v := .ref ((a 0) 4)) (C := RX3) (T := TX3) (N := 11) hx hb hts inX3_copyFrom_X3 hown hK hP 0 rfl rfl 3 (by decide) (hts _ (List.mem_of_getElem? (i := 8) rfl)) (fun _ h9 => h9) rfl dX3_copyFrom_63 ?_
  refine lv_iconst (v := 0) hx hb dX3_copyFrom_66 (by decide) ?_
  refine lv_bipush (v := 26) hx hb dX3_copyFrom_67 (by decide) ?_
  refine x_cpy (N := 26) hx hb (hml.trans hl.1.symm) hown (hts _ (List.mem_of_getElem? (i := 2) rfl)) (hts _ (List.mem_of_getElem? (i := 3) rfl)) (hts _ (List.mem_of_getElem? (i := 4) rfl)) (hts _ (List.mem_of_getElem? (i := 5) rfl)) hK hP hD hS 25 4 0 rfl rfl rfl (by decide) (by decide) (Nat.le_of_ble_eq_true rfl) (Nat.le_of_ble_eq_true rfl) dX3_copyFrom_69 (fun H locs hP hD hS => ?_)
  have hP : va_P D vwCl (cS cy a ((mkO (u.1 0) (u.1 1) (u.1 2) (v.1 3) (v.1 4) (v.1 5 0) (v.1 6 0) (v.1 7 0) (v.1 8 0) (v.1 9 0)), u.2.1, u.2.2) ++ cS cy b u) H := hP
  have hD : va_D A (cS cy a ((mkO (u.1 0) (u.1 1) (u.1 2) (v.1 3) (v.1 4) (v.1 5 0) (v.1 6 0) (v.1 7 0) (v.1 8 0) (v.1 9 0)), u.2.1, u.2.2) ++ cS cy b u) := hD
  refine lv_aload_n hx hb dX3_copyFrom_72 rfl (lv_at hl 2 rfl) ?_
  refine va_get (D := D) (ci := 2) (v := .ref ((b 0) 5)) (C := RX3) (T := TX3) (N := 11) hx hb hts inX3_copyFrom_X3 hown hK hP 21 rfl rfl 4 (by decide) (hts _ (List.mem_of_getElem? (i := 9) rfl)) (fun _ h9 => h9) rfl dX3_copyFrom_73 ?_
  refine lv_iconst (v := 0) hx hb dX3_copyFrom_76 (by decide) ?_
  refine lv_aload_n hx hb dX3_copyFrom_77 rfl (lv_at hl 1 rfl) ?_
  refine va_get (D := D) (ci := 2) (v := .ref ((a 0) 5)) (C := RX3) (T := TX3) (N := 11) hx hb hts inX3_copyFrom_X3 hown hK hP 0 rfl rfl 4 (by decide) (hts _ (List.mem_of_getElem? (i := 9) rfl)) (fun _ h9 => h9) rfl dX3_copyFrom_78 ?_
  refine lv_iconst (v := 0) hx hb dX3_copyFrom_81 (by decide) ?_
  refine lv_bipush (v := 26) hx hb dX3_copyFrom_82 (by decide) ?_
  refine x_cpy (N := 26) hx hb (hml.trans hl.1.symm) hown (hts _ (List.mem_of_getElem? (i := 2) rfl)) (hts _ (List.mem_of_getElem? (i := 3) rfl)) (hts _ (List.mem_of_getElem? (i := 4) rfl)) (hts _ (List.mem_of_getElem? (i := 5) rfl)) hK hP hD hS 26 5 0 rfl rfl rfl (by decide) (by decide) (Nat.le_of_ble_eq_true rfl) (Nat.le_of_ble_eq_true rfl) dX3_copyFrom_84 (fun H locs hP hD hS => ?_)
  have hP : va_P D vwCl (cS cy a ((mkO (u.1 0) (u.1 1) (u.1 2) (u.1 3) (v.1 4) (v.1 5 0) (v.1 6 0) (v.1 7 0) (v.1 8 0) (v.1 9 0)), u.2.1, u.2.2) ++ cS cy b u) H := hP
  have hD : va_D A (cS cy a ((mkO (u.1 0) (u.1 1) (u.1 2) (u.1 3) (v.1 4) (v.1 5 0) (v.1 6 0) (v.1 7 0) (v.1 8 0) (v.1 9 0)), u.2.1, u.2.2) ++ cS cy b u) := hD
  refine lv_aload_n hx hb dX3_copyFrom_87 rfl (lv_at hl 2 rfl) ?_
  refine va_get (D := D) (ci := 2) (v := .ref ((b 0) 6)) (C := RX3) (T := TX3) (N := 11) hx hb hts inX3_copyFrom_X3 hown hK hP 21 rfl rfl 5 (by decide) (hts _ (List.mem_of_getElem? (i := 10) rfl)) (fun _ h9 => h9) rfl dX3_copyFrom_88 ?_
  refine lv_iconst (v := 0) hx hb dX3_copyFrom_91 (by decide) ?_
  refine lv_aload_n hx hb dX3_copyFrom_92 rfl (lv_at hl 1 rfl) ?_
  refine va_get (D := D) (ci := 2) (v := .ref ((a 0) 6)) (C := RX3) (T := TX3) (N := 11) hx hb hts inX3_copyFrom_X3 hown hK hP 0 rfl rfl 5 (by decide) (hts _ (List.mem_of_getElem? (i := 10) rfl)) (fun _ h9 => h9) rfl dX3_copyFrom_93 ?_
  refine lv_iconst (v := 0) hx hb dX3_copyFrom_96 (by decide) ?_
  refine lv_bipush (v := 26) hx hb dX3_copyFrom_97 (by decide) ?_
  refine x_cpy (N := 26) hx hb (hml.trans hl.1.symm) hown (hts _ (List.mem_of_getElem? (i := 2) rfl)) (hts _ (List.mem_of_getElem? (i := 3) rfl)) (hts _ (List.mem_of_getElem? (i := 4) rfl)) (hts _ (List.mem_of_getElem? (i := 5) rfl)) hK hP hD hS 27 6 0 rfl rfl rfl (by decide) (by decide) (Nat.le_of_ble_eq_true rfl) (Nat.le_of_ble_eq_true rfl) dX3_copyFrom_99 (fun H locs hP hD hS => ?_)
  have hP : va_P D vwCl (cS cy a ((mkO (u.1 0) (u.1 1) (u.1 2) (u.1 3) (u.1 4) (v.1 5 0) (v.1 6 0) (v.1 7 0) (v.1 8 0) (v.1 9 0)), u.2.1, u.2.2) ++ cS cy b u) H := hP
  have hD : va_D A (cS cy a ((mkO (u.1 0) (u.1 1) (u.1 2) (u.1 3) (u.1 4) (v.1 5 0) (v.1 6 0) (v.1 7 0) (v.1 8 0) (v.1 9 0)), u.2.1, u.2.2) ++ cS cy b u) := hD
  refine lv_aload_n hx hb dX3_copyFrom_102 rfl (lv_at hl 1 rfl) ?_
  refine lv_aload_n hx hb dX3_copyFrom_103 rfl (lv_at hl 2 rfl) ?_
  refine va_get (D := D) (ci := 2) (v := .int (u.1 5 0)) (C := RX3) (T := TX3) (N := 11) hx hb hts inX3_copyFrom_X3 hown hK hP 21 rfl rfl 6 (by decide) (hts _ (List.mem_of_getElem? (i := 11) rfl)) (fun _ h9 => h9) rfl dX3_copyFrom_104 ?_
  refine va_put (D := D) (ci := 2) (v := .int (u.1 5 0)) (ty := .int) (C := RX3) (T := TX3) (N := 11) hx hb hts inX3_copyFrom_X3 tyX3 tyX3_ok nmX3 hown hK hP hD hS 0 rfl rfl 6 (by decide) (hts _ (List.mem_of_getElem? (i := 11) rfl)) (fun _ h9 => h9) rfl (by decide +kernel) rfl rfl (Nat.le_of_ble_eq_true rfl) dX3_copyFrom_107 (fun H locs hP hD hS => ?_)
  have hP : va_P D vwCl (cS cy a ((mkO (u.1 0) (u.1 1) (u.1 2) (u.1 3) (u.1 4) (u.1 5 0) (v.1 6 0) (v.1 7 0) (v.1 8 0) (v.1 9 0)), u.2.1, u.2.2) ++ cS cy b u) H := hP
  have hD : va_D A (cS cy a ((mkO (u.1 0) (u.1 1) (u.1 2) (u.1 3) (u.1 4) (u.1 5 0) (v.1 6 0) (v.1 7 0) (v.1 8 0) (v.1 9 0)), u.2.1, u.2.2) ++ cS cy b u) := hD
  refine lv_aload_n hx hb dX3_copyFrom_110 rfl (lv_at hl 1 rfl) ?_
  refine lv_aload_n hx hb dX3_copyFrom_111 rfl (lv_at hl 2 rfl) ?_
  refine va_get (D := D) (ci := 2) (v := .int (u.1 6 0)) (C := RX3) (T := TX3) (N := 11) hx hb hts inX3_copyFrom_X3 hown hK hP 21 rfl rfl 7 (by decide) (hts _ (List.mem_of_getElem? (i := 12) rfl)) (fun _ h9 => h9) rfl dX3_copyFrom_112 ?_
  refine va_put (D := D) (ci := 2) (v := .int (u.1 6 0)) (ty := .int) (C := RX3) (T := TX3) (N := 11) hx hb hts inX3_copyFrom_X3 tyX3 tyX3_ok nmX3 hown hK hP hD hS 0 rfl rfl 7 (by decide) (hts _ (List.mem_of_getElem? (i := 12) rfl)) (fun _ h9 => h9) rfl (by decide +kernel) rfl rfl (Nat.le_of_ble_eq_true rfl) dX3_copyFrom_115 (fun H locs hP hD hS => ?_)
  have hP : va_P D vwCl (cS cy a ((mkO (u.1 0) (u.1 1) (u.1 2) (u.1 3) (u.1 4) (u.1 5 0) (u.1 6 0) (v.1 7 0) (v.1 8 0) (v.1 9 0)), u.2.1, u.2.2) ++ cS cy b u) H := hP
  have hD : va_D A (cS cy a ((mkO (u.1 0) (u.1 1) (u.1 2) (u.1 3) (u.1 4) (u.1 5 0) (u.1 6 0) (v.1 7 0) (v.1 8 0) (v.1 9 0)), u.2.1, u.2.2) ++ cS cy b u) := hD
  refine lv_aload_n hx hb dX3_copyFrom_118 rfl (lv_at hl 1 rfl) ?_
  refine lv_aload_n hx hb dX3_copyFrom_119 rfl (lv_at hl 2 rfl) ?_
  refine va_get (D := D) (ci := 2) (v := .int (u.1 7 0)) (C := RX3) (T := TX3) (N := 11) hx hb hts inX3_copyFrom_X3 hown hK hP 21 rfl rfl 8 (by decide) (hts _ (List.mem_of_getElem? (i := 13) rfl)) (fun _ h9 => h9) rfl dX3_copyFrom_120 ?_
  refine va_put (D := D) (ci := 2) (v := .int (u.1 7 0)) (ty := .int) (C := RX3) (T := TX3) (N := 11) hx hb hts inX3_copyFrom_X3 tyX3 tyX3_ok nmX3 hown hK hP hD hS 0 rfl rfl 8 (by decide) (hts _ (List.mem_of_getElem? (i := 13) rfl)) (fun _ h9 => h9) rfl (by decide +kernel) rfl rfl (Nat.le_of_ble_eq_true rfl) dX3_copyFrom_123 (fun H locs hP hD hS => ?_)
  have hP : va_P D vwCl (cS cy a ((mkO (u.1 0) (u.1 1) (u.1 2) (u.1 3) (u.1 4) (u.1 5 0) (u.1 6 0) (u.1 7 0) (v.1 8 0) (v.1 9 0)), u.2.1, u.2.2) ++ cS cy b u) H := hP
  have hD : va_D A (cS cy a ((mkO (u.1 0) (u.1 1) (u.1 2) (u.1 3) (u.1 4) (u.1 5 0) (u.1 6 0) (u.1 7 0) (v.1 8 0) (v.1 9 0)), u.2.1, u.2.2) ++ cS cy b u) := hD
  refine lv_aload_n hx hb dX3_copyFrom_126 rfl (lv_at hl 1 rfl) ?_
  refine lv_aload_n hx hb dX3_copyFrom_127 rfl (lv_at hl 2 rfl) ?_
  refine va_get (D := D) (ci := 2) (v := .int (u.1 8 0)) (C := RX3) (T := TX3) (N := 11) hx hb hts inX3_copyFrom_X3 hown hK hP 21 rfl rfl 9 (by decide) (hts _ (List.mem_of_getElem? (i := 14) rfl)) (fun _ h9 => h9) rfl dX3_copyFrom_128 ?_
  refine va_put (D := D) (ci := 2) (v := .int (u.1 8 0)) (ty := .int) (C := RX3) (T := TX3) (N := 11) hx hb hts inX3_copyFrom_X3 tyX3 tyX3_ok nmX3 hown hK hP hD hS 0 rfl rfl 9 (by decide) (hts _ (List.mem_of_getElem? (i := 14) rfl)) (fun _ h9 => h9) rfl (by decide +kernel) rfl rfl (Nat.le_of_ble_eq_true rfl) dX3_copyFrom_131 (fun H locs hP hD hS => ?_)
  have hP : va_P D vwCl (cS cy a ((mkO (u.1 0) (u.1 1) (u.1 2) (u.1 3) (u.1 4) (u.1 5 0) (u.1 6 0) (u.1 7 0) (u.1 8 0) (v.1 9 0)), u.2.1, u.2.2) ++ cS cy b u) H := hP
  have hD : va_D A (cS cy a ((mkO (u.1 0) (u.1 1) (u.1 2) (u.1 3) (u.1 4) (u.1 5 0) (u.1 6 0) (u.1 7 0) (u.1 8 0) (v.1 9 0)), u.2.1, u.2.2) ++ cS cy b u) := hD
  refine lv_aload_n hx hb dX3_copyFrom_134 rfl (lv_at hl 1 rfl) ?_
  refine lv_aload_n hx hb dX3_copyFrom_135 rfl (lv_at hl 2 rfl) ?_
  refine va_get (D := D) (ci := 2) (v := .int (u.1 9 0)) (C := RX3) (T := TX3) (N := 11) hx hb hts inX3_copyFrom_X3 hown hK hP 21 rfl rfl 10 (by decide) (hts _ (List.mem_of_getElem? (i := 15) rfl)) (fun _ h9 => h9) rfl dX3_copyFrom_136 ?_
  refine va_put (D := D) (ci := 2) (v := .int (u.1 9 0)) (ty := .int) (C := RX3) (T := TX3) (N := 11) hx hb hts inX3_copyFrom_X3 tyX3 tyX3_ok nmX3 hown hK hP hD hS 0 rfl rfl 10 (by decide) (hts _ (List.mem_of_getElem? (i := 15) rfl)) (fun _ h9 => h9) rfl (by decide +kernel) rfl rfl (Nat.le_of_ble_eq_true rfl) dX3_copyFrom_139 (fun H locs hP hD hS => ?_)
  have hP : va_P D vwCl (cS cy a ((mkO (u.1 0) (u.1 1) (u.1 2) (u.1 3) (u.1 4) (u.1 5 0) (u.1 6 0) (u.1 7 0) (u.1 8 0) (u.1 9 0)), u.2.1, u.2.2) ++ cS cy b u) H := hP
  have hD : va_D A (cS cy a ((mkO (u.1 0) (u.1 1) (u.1 2) (u.1 3) (u.1 4) (u.1 5 0) (u.1 6 0) (u.1 7 0) (u.1 8 0) (u.1 9 0)), u.2.1, u.2.2) ++ cS cy b u) := hD
  exact hret H locs _ ls hP hD hS dX3_copyFrom_142

def w_X3_changeBoth (v : SV) (what : Int32) (val2 : Int32) : SV := (w_X3_beginAnew ((mkO (upd (v.1 0) what.toNatClampNeg val2) (v.1 1) (v.1 2) (v.1 3) (v.1 4) (v.1 5 0) (v.1 6 0) (v.1 7 0) (v.1 8 0) (v.1 9 0)), v.2.1, v.2.2))
abbrev rX3_changeBoth : Room := { frames := 3, cells := 0, slots := 0, locals := 65 }
theorem inX3_changeBoth_X3 : ∀ w ∈ u_ws RX3 TX3 11, w ∈ wsX3_changeBoth := by decide +kernel
set_option maxHeartbeats 4000000 in
set_option maxRecDepth 100000 in
theorem c_X3_changeBoth (l : Launch) (D : va_G) (cy : Nat → ClassId) (a : Nat → Nat → Nat) (v : SV) (what : Int32) (val2 : Int32) (sz : Nat) (hw : vp_in what 3) : CN l yX3_changeBoth wsX3_changeBoth rX3_changeBoth D cy [.ref (a 0 0), .int what, .int val2] (cS cy a v) sz (cS cy a (w_X3_changeBoth v what val2)) 0 0 := by
  refine st_n (cc := cX3_changeBoth) (maxL := 3) (by decide) rfl (Nat.le_of_ble_eq_true rfl) ?_
  intro pp e s m below meth c A Q ls hx hb hts hown hml hlocks hsz hP hK hD hE hA hl hret
  subst hsz
  have hown : s.vm.findClass RX3 = some m.cls := hown
  have hl : lv_has ls 3 [(0, .ref (a 0 0)), (1, .int what), (2, .int val2)] := hl
  obtain ⟨H, hH⟩ : ∃ H, H = s.heap := ⟨_, rfl⟩
  rw [← hH] at hP ⊢
  have hS : va_S A s.heap H [] := by rw [hH]; exact va_S.rf
  obtain ⟨locs, hlo⟩ : ∃ locs : List Loc, locs = [] := ⟨_, rfl⟩
  rw [← hlo] at hS ⊢
  refine lv_aload_n hx hb dX3_changeBoth_0 rfl (lv_at hl 0 rfl) ?_
  refine va_get (D := D) (ci := 2) (v := .ref ((a 0) 1)) (C := RX3) (T := TX3) (N := 11) hx hb hts inX3_changeBoth_X3 hown hK hP 0 rfl rfl 0 (by decide) (hts _ (List.mem_of_getElem? (i := 1) rfl)) (fun _ h9 => h9) rfl dX3_changeBoth_1 ?_
  refine lv_iload_n hx hb dX3_changeBoth_4 rfl (lv_at hl 1 rfl) ?_
  refine lv_iload_n hx hb dX3_changeBoth_5 rfl (lv_at hl 2 rfl) ?_
  refine x_iast (j := what.toNatClampNeg) hx hb hK hP hD hS 1 0 rfl rfl rfl hw dX3_changeBoth_6 (fun H locs hP hD hS => ?_)
  have hP : va_P D vwCl (cS cy a ((mkO (upd (v.1 0) what.toNatClampNeg val2) (v.1 1) (v.1 2) (v.1 3) (v.1 4) (v.1 5 0) (v.1 6 0) (v.1 7 0) (v.1 8 0) (v.1 9 0)), v.2.1, v.2.2)) H := hP
  have hD : va_D A (cS cy a ((mkO (upd (v.1 0) what.toNatClampNeg val2) (v.1 1) (v.1 2) (v.1 3) (v.1 4) (v.1 5 0) (v.1 6 0) (v.1 7 0) (v.1 8 0) (v.1 9 0)), v.2.1, v.2.2)) := hD
  refine lv_aload_n hx hb dX3_changeBoth_7 rfl (lv_at hl 0 rfl) ?_
  refine cl_n (va_runV (As := []) (rest := []) ⟨hx, hb, hml, hown, hts⟩ (c_X3_beginAnew l D cy a ((mkO (upd (v.1 0) what.toNatClampNeg val2) (v.1 1) (v.1 2) (v.1 3) (v.1 4) (v.1 5 0) (v.1 6 0) (v.1 7 0) (v.1 8 0) (v.1 9 0)), v.2.1, v.2.2) H.size) (cwV 0 hts gX3_changeBoth_X3_beginAnew rfl rfl rfl (by decide +kernel) ⟨Nat.le_of_ble_eq_true rfl, Nat.le_of_ble_eq_true rfl⟩) ⟨blU, va_recv hK hP (ci := 2) (q0 := 0) rfl rfl, preU hP hD (pmI _) hK hE hS hA⟩ rfl rfl hl.1 rfl (lv_room (Nat.le_of_ble_eq_true rfl)) dX3_changeBoth_8 ⟨Nat.le_of_ble_eq_true rfl, Nat.le_of_ble_eq_true rfl⟩) hP hD (pmI _) hS hA (fun H locs hP hD hS => ?_)
  have hP : va_P D vwCl (cS cy a (w_X3_beginAnew ((mkO (upd (v.1 0) what.toNatClampNeg val2) (v.1 1) (v.1 2) (v.1 3) (v.1 4) (v.1 5 0) (v.1 6 0) (v.1 7 0) (v.1 8 0) (v.1 9 0)), v.2.1, v.2.2))) H := vP_perm hP (pmI _).symm
  have hD : va_D A (cS cy a (w_X3_beginAnew ((mkO (upd (v.1 0) what.toNatClampNeg val2) (v.1 1) (v.1 2) (v.1 3) (v.1 4) (v.1 5 0) (v.1 6 0) (v.1 7 0) (v.1 8 0) (v.1 9 0)), v.2.1, v.2.2))) := vD_perm hD (pmI _).symm
  have hw9 : (w_X3_changeBoth v what val2) = (w_X3_beginAnew ((mkO (upd (v.1 0) what.toNatClampNeg val2) (v.1 1) (v.1 2) (v.1 3) (v.1 4) (v.1 5 0) (v.1 6 0) (v.1 7 0) (v.1 8 0) (v.1 9 0)), v.2.1, v.2.2)) := by rfl
  exact hret H locs _ ls (by rw [hw9]; exact hP) (by rw [hw9]; exact hD) hS dX3_changeBoth_11

def r_X3_noteFor (v : SV) (d : Int32) (pl : Int32) : Int32 := (if d = 0 then (r_X0_noteFor v.2.1 pl ((v.1 0) 0)) else (r_X0_noteFor v.2.2 pl ((v.1 0) 0)))
abbrev rX3_noteFor : Room := { frames := 2, cells := 0, slots := 0, locals := 45 }
theorem inX3_noteFor_X3 : ∀ w ∈ u_ws RX3 TX3 11, w ∈ wsX3_noteFor := by decide +kernel
set_option maxHeartbeats 4000000 in
set_option maxRecDepth 100000 in
theorem c_X3_noteFor (l : Launch) (D : va_G) (cy : Nat → ClassId) (a : Nat → Nat → Nat) (v : SV) (d : Int32) (pl : Int32) (sz : Nat) (hd : d = 0 ∨ d = 1) (hpl : vp_in pl 26) : CI l yX3_noteFor wsX3_noteFor rX3_noteFor D cy [.ref (a 0 0), .int d, .int pl] (cS cy a v) sz (r_X3_noteFor v d pl) (cS cy a v) 0 0 := by
  refine st_i (ty := .int) (cc := cX3_noteFor) (maxL := 3) (by decide) rfl rfl (Nat.le_of_ble_eq_true rfl) ?_
  intro pp e s m below meth c A Q ls hx hb hts hown hml hlocks hsz hP hK hD hE hA hl hret
  subst hsz
  have hown : s.vm.findClass RX3 = some m.cls := hown
  have hl : lv_has ls 3 [(0, .ref (a 0 0)), (1, .int d), (2, .int pl)] := hl
  obtain ⟨H, hH⟩ : ∃ H, H = s.heap := ⟨_, rfl⟩
  rw [← hH] at hP ⊢
  have hS : va_S A s.heap H [] := by rw [hH]; exact va_S.rf
  obtain ⟨locs, hlo⟩ : ∃ locs : List Loc, locs = [] := ⟨_, rfl⟩
  rw [← hlo] at hS ⊢
  rcases hd with hd | hd
  · subst hd
    have hd0 : (0 : Int32) = 0 := by decide
    have hl : lv_has ls 3 [(0, .ref (a 0 0)), (1, .int (0 : Int32)), (2, .int pl)] := hl
    refine lv_aload_n hx hb dX3_noteFor_0 rfl (lv_at hl 0 rfl) ?_
    refine va_get (D := D) (ci := 2) (v := .ref ((a 0) 2)) (C := RX3) (T := TX3) (N := 11) hx hb hts inX3_noteFor_X3 hown hK hP 0 rfl rfl 1 (by decide) (hts _ (List.mem_of_getElem? (i := 1) rfl)) (fun _ h9 => h9) rfl dX3_noteFor_1 ?_
    refine lv_iload_n hx hb dX3_noteFor_4 rfl (lv_at hl 1 rfl) ?_
    refine x_aldq (v := .ref ((a 1) 0)) hx hb hK hP 2 2 rfl rfl (vp_c (by decide)) rfl dX3_noteFor_5 ?_
    refine lv_iload_n hx hb dX3_noteFor_6 rfl (lv_at hl 2 rfl) ?_
    refine lv_aload_n hx hb dX3_noteFor_7 rfl (lv_at hl 0 rfl) ?_
    refine va_get (D := D) (ci := 2) (v := .ref ((a 0) 1)) (C := RX3) (T := TX3) (N := 11) hx hb hts inX3_noteFor_X3 hown hK hP 0 rfl rfl 0 (by decide) (hts _ (List.mem_of_getElem? (i := 2) rfl)) (fun _ h9 => h9) rfl dX3_noteFor_8 ?_
    refine lv_iconst (v := 0) hx hb dX3_noteFor_11 (by decide) ?_
    refine x_iald (f := (v.1 0)) (j := 0) hx hb hK hP 1 0 rfl rfl rfl (vp_c (by decide)) dX3_noteFor_12 ?_
    refine cl_i (va_runV (As := [.int pl, .int ((v.1 0) 0)]) (rest := []) ⟨hx, hb, hml, hown, hts⟩ (c_X0_noteFor l D cy (a 1) v.2.1 pl ((v.1 0) 0) H.size hpl) (cwV 2 hts gX3_noteFor_X0_noteFor rfl rfl rfl (by decide +kernel) ⟨Nat.le_of_ble_eq_true rfl, Nat.le_of_ble_eq_true rfl⟩) ⟨blU, va_recv hK hP (ci := 0) (q0 := 7) rfl rfl, preU hP hD (pmB (bS cy a v) 1 _ (cD cy (a 1) v.2.1) rfl).1 hK hE hS hA⟩ rfl rfl hl.1 rfl (lv_room (Nat.le_of_ble_eq_true rfl)) dX3_noteFor_13 ⟨Nat.le_of_ble_eq_true rfl, Nat.le_of_ble_eq_true rfl⟩) hP hD (pmB (bS cy a v) 1 _ (cD cy (a 1) v.2.1) rfl).1 hS hA (fun H locs hP hD hS => ?_)
    have hP : va_P D vwCl (cS cy a v) H := vP_perm hP (pmB (bS cy a v) 1 _ (cD cy (a 1) v.2.1) rfl).2
    have hD : va_D A (cS cy a v) := vD_perm hD (pmB (bS cy a v) 1 _ (cD cy (a 1) v.2.1) rfl).2
    have hr9 : (r_X0_noteFor v.2.1 pl ((v.1 0) 0)) = (r_X3_noteFor v (0 : Int32) pl) := by unfold r_X3_noteFor; simp only [if_pos hd0, if_true, if_false]
    exact hret _ H locs _ ls hr9 hP hD hS dX3_noteFor_16
  · subst hd
    have hd1 : ¬ (1 : Int32) = 0 := by decide
    have hl : lv_has ls 3 [(0, .ref (a 0 0)), (1, .int (1 : Int32)), (2, .int pl)] := hl
    refine lv_aload_n hx hb dX3_noteFor_0 rfl (lv_at hl 0 rfl) ?_
    refine va_get (D := D) (ci := 2) (v := .ref ((a 0) 2)) (C := RX3) (T := TX3) (N := 11) hx hb hts inX3_noteFor_X3 hown hK hP 0 rfl rfl 1 (by decide) (hts _ (List.mem_of_getElem? (i := 1) rfl)) (fun _ h9 => h9) rfl dX3_noteFor_1 ?_
    refine lv_iload_n hx hb dX3_noteFor_4 rfl (lv_at hl 1 rfl) ?_
    refine x_aldq (v := .ref ((a 2) 0)) hx hb hK hP 2 2 rfl rfl (vp_c (by decide)) rfl dX3_noteFor_5 ?_
    refine lv_iload_n hx hb dX3_noteFor_6 rfl (lv_at hl 2 rfl) ?_
    refine lv_aload_n hx hb dX3_noteFor_7 rfl (lv_at hl 0 rfl) ?_
    refine va_get (D := D) (ci := 2) (v := .ref ((a 0) 1)) (C := RX3) (T := TX3) (N := 11) hx hb hts inX3_noteFor_X3 hown hK hP 0 rfl rfl 0 (by decide) (hts _ (List.mem_of_getElem? (i := 2) rfl)) (fun _ h9 => h9) rfl dX3_noteFor_8 ?_
    refine lv_iconst (v := 0) hx hb dX3_noteFor_11 (by decide) ?_
    refine x_iald (f := (v.1 0)) (j := 0) hx hb hK hP 1 0 rfl rfl rfl (vp_c (by decide)) dX3_noteFor_12 ?_
    refine cl_i (va_runV (As := [.int pl, .int ((v.1 0) 0)]) (rest := []) ⟨hx, hb, hml, hown, hts⟩ (c_X0_noteFor l D cy (a 2) v.2.2 pl ((v.1 0) 0) H.size hpl) (cwV 2 hts gX3_noteFor_X0_noteFor rfl rfl rfl (by decide +kernel) ⟨Nat.le_of_ble_eq_true rfl, Nat.le_of_ble_eq_true rfl⟩) ⟨blU, va_recv hK hP (ci := 0) (q0 := 14) rfl rfl, preU hP hD (pmB (bS cy a v) 2 _ (cD cy (a 2) v.2.2) rfl).1 hK hE hS hA⟩ rfl rfl hl.1 rfl (lv_room (Nat.le_of_ble_eq_true rfl)) dX3_noteFor_13 ⟨Nat.le_of_ble_eq_true rfl, Nat.le_of_ble_eq_true rfl⟩) hP hD (pmB (bS cy a v) 2 _ (cD cy (a 2) v.2.2) rfl).1 hS hA (fun H locs hP hD hS => ?_)
    have hP : va_P D vwCl (cS cy a v) H := vP_perm hP (pmB (bS cy a v) 2 _ (cD cy (a 2) v.2.2) rfl).2
    have hD : va_D A (cS cy a v) := vD_perm hD (pmB (bS cy a v) 2 _ (cD cy (a 2) v.2.2) rfl).2
    have hr9 : (r_X0_noteFor v.2.2 pl ((v.1 0) 0)) = (r_X3_noteFor v (1 : Int32) pl) := by unfold r_X3_noteFor; simp only [if_neg hd1, if_true, if_false]
    exact hret _ H locs _ ls hr9 hP hD hS dX3_noteFor_16

def r_X3_deskSays (v : SV) (d : Int32) (pl : Int32) : Int32 := (if d = 0 then (if ((v.2.1 1) (r_X0_noteFor v.2.1 pl ((v.1 0) 0)).toNatClampNeg) < ((v.1 0) 1) then (0 : Int32) else (1 : Int32)) else (if ((v.2.2 1) (r_X0_noteFor v.2.2 pl ((v.1 0) 0)).toNatClampNeg) < ((v.1 0) 1) then (0 : Int32) else (1 : Int32)))
abbrev rX3_deskSays : Room := { frames := 2, cells := 0, slots := 0, locals := 45 }
theorem inX3_deskSays_X0 : ∀ w ∈ u_ws RX0 TX0 8, w ∈ wsX3_deskSays := by decide +kernel
theorem inX3_deskSays_X3 : ∀ w ∈ u_ws RX3 TX3 11, w ∈ wsX3_deskSays := by decide +kernel
theorem zn_X3_deskSays (v : SV) (d : Int32) (pl : Int32) : narrow .boolean (.int (r_X3_deskSays v d pl)) = .int (r_X3_deskSays v d pl) := by
  unfold r_X3_deskSays
  repeat' split
  all_goals rfl
set_option maxHeartbeats 4000000 in
set_option maxRecDepth 100000 in
theorem c_X3_deskSays (l : Launch) (D : va_G) (cy : Nat → ClassId) (a : Nat → Nat → Nat) (v : SV) (d : Int32) (pl : Int32) (sz : Nat) (hd : d = 0 ∨ d = 1) (hpl : vp_in pl 26) (hsz2 : szok (v.1 0 0)) : CI l yX3_deskSays wsX3_deskSays rX3_deskSays D cy [.ref (a 0 0), .int d, .int pl] (cS cy a v) sz (r_X3_deskSays v d pl) (cS cy a v) 0 0 := by
  refine st_i (ty := .boolean) (cc := cX3_deskSays) (maxL := 4) (by decide) rfl (zn_X3_deskSays v d pl) (Nat.le_of_ble_eq_true rfl) ?_
  intro pp e s m below meth c A Q ls hx hb hts hown hml hlocks hsz hP hK hD hE hA hl hret
  subst hsz
  have hown : s.vm.findClass RX3 = some m.cls := hown
  have hl : lv_has ls 4 [(0, .ref (a 0 0)), (1, .int d), (2, .int pl)] := hl
  obtain ⟨H, hH⟩ : ∃ H, H = s.heap := ⟨_, rfl⟩
  rw [← hH] at hP ⊢
  have hS : va_S A s.heap H [] := by rw [hH]; exact va_S.rf
  obtain ⟨locs, hlo⟩ : ∃ locs : List Loc, locs = [] := ⟨_, rfl⟩
  rw [← hlo] at hS ⊢
  rcases hd with hd | hd
  · subst hd
    have hd0 : (0 : Int32) = 0 := by decide
    have hl : lv_has ls 4 [(0, .ref (a 0 0)), (1, .int (0 : Int32)), (2, .int pl)] := hl
    refine lv_aload_n hx hb dX3_deskSays_0 rfl (lv_at hl 0 rfl) ?_
    refine va_get (D := D) (ci := 2) (v := .ref ((a 0) 2)) (C := RX3) (T := TX3) (N := 11) hx hb hts inX3_deskSays_X3 hown hK hP 0 rfl rfl 1 (by decide) (hts _ (List.mem_of_getElem? (i := 1) rfl)) (fun _ h9 => h9) rfl dX3_deskSays_1 ?_
    refine lv_iload_n hx hb dX3_deskSays_4 rfl (lv_at hl 1 rfl) ?_
    refine x_aldq (v := .ref ((a 1) 0)) hx hb hK hP 2 2 rfl rfl (vp_c (by decide)) rfl dX3_deskSays_5 ?_
    refine lv_astore_n (lv' := [(3, .ref ((a 1) 0)), (0, .ref (a 0 0)), (1, .int (0 : Int32)), (2, .int pl)]) hx hb dX3_deskSays_6 rfl hl (by decide) rfl (fun ls hl => ?_)
    refine lv_aload_n hx hb dX3_deskSays_7 rfl (lv_at hl 0 rfl) ?_
    refine va_get (D := D) (ci := 0) (v := .ref ((a 1) 2)) (C := RX0) (T := TX0) (N := 8) hx hb hts inX3_deskSays_X0 hown hK hP 7 rfl rfl 1 (by decide) (hts _ (List.mem_of_getElem? (i := 2) rfl)) (fun _ h9 => h9) rfl dX3_deskSays_8 ?_
    refine lv_aload_n hx hb dX3_deskSays_11 rfl (lv_at hl 0 rfl) ?_
    refine lv_iload_n hx hb dX3_deskSays_12 rfl (lv_at hl 3 rfl) ?_
    refine lv_aload_n hx hb dX3_deskSays_13 rfl (lv_at hl 1 rfl) ?_
    refine va_get (D := D) (ci := 2) (v := .ref ((a 0) 1)) (C := RX3) (T := TX3) (N := 11) hx hb hts inX3_deskSays_X3 hown hK hP 0 rfl rfl 0 (by decide) (hts _ (List.mem_of_getElem? (i := 3) rfl)) (fun _ h9 => h9) rfl dX3_deskSays_14 ?_
    refine lv_iconst (v := 0) hx hb dX3_deskSays_17 (by decide) ?_
    refine x_iald (f := (v.1 0)) (j := 0) hx hb hK hP 1 0 rfl rfl rfl (vp_c (by decide)) dX3_deskSays_18 ?_
    refine cl_i (va_runV (As := [.int pl, .int ((v.1 0) 0)]) (rest := [.ref ((a 1) 2)]) ⟨hx, hb, hml, hown, hts⟩ (c_X0_noteFor l D cy (a 1) v.2.1 pl ((v.1 0) 0) H.size hpl) (cwV 2 hts gX3_deskSays_X0_noteFor rfl rfl rfl (by decide +kernel) ⟨Nat.le_of_ble_eq_true rfl, Nat.le_of_ble_eq_true rfl⟩) ⟨blU, va_recv hK hP (ci := 0) (q0 := 7) rfl rfl, preU hP hD (pmB (bS cy a v) 1 _ (cD cy (a 1) v.2.1) rfl).1 hK hE hS hA⟩ rfl rfl hl.1 rfl (lv_room (Nat.le_of_ble_eq_true rfl)) dX3_deskSays_19 ⟨Nat.le_of_ble_eq_true rfl, Nat.le_of_ble_eq_true rfl⟩) hP hD (pmB (bS cy a v) 1 _ (cD cy (a 1) v.2.1) rfl).1 hS hA (fun H locs hP hD hS => ?_)
    have hP : va_P D vwCl (cS cy a v) H := vP_perm hP (pmB (bS cy a v) 1 _ (cD cy (a 1) v.2.1) rfl).2
    have hD : va_D A (cS cy a v) := vD_perm hD (pmB (bS cy a v) 1 _ (cD cy (a 1) v.2.1) rfl).2
    refine x_iald (f := (v.2.1 1)) (j := (r_X0_noteFor v.2.1 pl ((v.1 0) 0)).toNatClampNeg) hx hb hK hP 9 0 rfl rfl rfl (note_in _ _ _ hsz2) dX3_deskSays_22 ?_
    refine lv_aload_n hx hb dX3_deskSays_23 rfl (lv_at hl 1 rfl) ?_
    refine va_get (D := D) (ci := 2) (v := .ref ((a 0) 1)) (C := RX3) (T := TX3) (N := 11) hx hb hts inX3_deskSays_X3 hown hK hP 0 rfl rfl 0 (by decide) (hts _ (List.mem_of_getElem? (i := 3) rfl)) (fun _ h9 => h9) rfl dX3_deskSays_24 ?_
    refine lv_iconst (v := 1) hx hb dX3_deskSays_27 (by decide) ?_
    refine x_iald (f := (v.1 0)) (j := 1) hx hb hK hP 1 0 rfl rfl rfl (vp_c (by decide)) dX3_deskSays_28 ?_
    have J37_2 : ∀ (z_2 : Int32) (hz_2 : z_2 = (if ((v.2.1 1) (r_X0_noteFor v.2.1 pl ((v.1 0) 0)).toNatClampNeg) < ((v.1 0) 1) then (0 : Int32) else (1 : Int32))) (H : Heap) (locs : List Loc), va_P D vwCl (cS cy a v) H → va_D A (cS cy a v) → va_S A s.heap H locs → ∀ ls : Array Slot, lv_has ls 4 [(0, .ref (a 0 0)), (1, .int (0 : Int32)), (2, .int pl), (3, .ref ((a 1) 0))] → W pp l e rX3_deskSays s m ([.ref (a 0 0), .int (0 : Int32), .int pl] : List Value).toArray below meth c H locs 0 0 Q (F0 m 37 ls [.int z_2]) := by
      intro z_2 hz_2 H locs hP hD hS ls hl
      subst hz_2
      have hr9 : (if ((v.2.1 1) (r_X0_noteFor v.2.1 pl ((v.1 0) 0)).toNatClampNeg) < ((v.1 0) 1) then (0 : Int32) else (1 : Int32)) = (r_X3_deskSays v (0 : Int32) pl) := by unfold r_X3_deskSays; simp only [if_pos hd0, if_true, if_false]
      exact hret _ H locs _ ls hr9 hP hD hS dX3_deskSays_37
    refine lv_icmp_lt (tgt := 36) hx hb dX3_deskSays_29 (by decide) (fun c_1 => ?_) (fun c_1 => ?_)
    · refine lv_iconst (v := 0) hx hb dX3_deskSays_36 (by decide) ?_
      exact J37_2 (0 : Int32) (by simp only [if_pos c_1, if_true, if_false]) H locs hP hD hS ls (lv_sub hl [1, 2, 3, 0] rfl)
    · refine lv_iconst (v := 1) hx hb dX3_deskSays_32 (by decide) ?_
      refine lv_goto (tgt := 37) hx hb dX3_deskSays_33 (by decide) ?_
      exact J37_2 (1 : Int32) (by simp only [if_neg c_1, if_true, if_false]) H locs hP hD hS ls (lv_sub hl [1, 2, 3, 0] rfl)
  · subst hd
    have hd1 : ¬ (1 : Int32) = 0 := by decide
    have hl : lv_has ls 4 [(0, .ref (a 0 0)), (1, .int (1 : Int32)), (2, .int pl)] := hl
    refine lv_aload_n hx hb dX3_deskSays_0 rfl (lv_at hl 0 rfl) ?_
    refine va_get (D := D) (ci := 2) (v := .ref ((a 0) 2)) (C := RX3) (T := TX3) (N := 11) hx hb hts inX3_deskSays_X3 hown hK hP 0 rfl rfl 1 (by decide) (hts _ (List.mem_of_getElem? (i := 1) rfl)) (fun _ h9 => h9) rfl dX3_deskSays_1 ?_
    refine lv_iload_n hx hb dX3_deskSays_4 rfl (lv_at hl 1 rfl) ?_
    refine x_aldq (v := .ref ((a 2) 0)) hx hb hK hP 2 2 rfl rfl (vp_c (by decide)) rfl dX3_deskSays_5 ?_
    refine lv_astore_n (lv' := [(3, .ref ((a 2) 0)), (0, .ref (a 0 0)), (1, .int (1 : Int32)), (2, .int pl)]) hx hb dX3_deskSays_6 rfl hl (by decide) rfl (fun ls hl => ?_)
    refine lv_aload_n hx hb dX3_deskSays_7 rfl (lv_at hl 0 rfl) ?_
    refine va_get (D := D) (ci := 0) (v := .ref ((a 2) 2)) (C := RX0) (T := TX0) (N := 8) hx hb hts inX3_deskSays_X0 hown hK hP 14 rfl rfl 1 (by decide) (hts _ (List.mem_of_getElem? (i := 2) rfl)) (fun _ h9 => h9) rfl dX3_deskSays_8 ?_
    refine lv_aload_n hx hb dX3_deskSays_11 rfl (lv_at hl 0 rfl) ?_
    refine lv_iload_n hx hb dX3_deskSays_12 rfl (lv_at hl 3 rfl) ?_
    refine lv_aload_n hx hb dX3_deskSays_13 rfl (lv_at hl 1 rfl) ?_
    refine va_get (D := D) (ci := 2) (v := .ref ((a 0) 1)) (C := RX3) (T := TX3) (N := 11) hx hb hts inX3_deskSays_X3 hown hK hP 0 rfl rfl 0 (by decide) (hts _ (List.mem_of_getElem? (i := 3) rfl)) (fun _ h9 => h9) rfl dX3_deskSays_14 ?_
    refine lv_iconst (v := 0) hx hb dX3_deskSays_17 (by decide) ?_
    refine x_iald (f := (v.1 0)) (j := 0) hx hb hK hP 1 0 rfl rfl rfl (vp_c (by decide)) dX3_deskSays_18 ?_
    refine cl_i (va_runV (As := [.int pl, .int ((v.1 0) 0)]) (rest := [.ref ((a 2) 2)]) ⟨hx, hb, hml, hown, hts⟩ (c_X0_noteFor l D cy (a 2) v.2.2 pl ((v.1 0) 0) H.size hpl) (cwV 2 hts gX3_deskSays_X0_noteFor rfl rfl rfl (by decide +kernel) ⟨Nat.le_of_ble_eq_true rfl, Nat.le_of_ble_eq_true rfl⟩) ⟨blU, va_recv hK hP (ci := 0) (q0 := 14) rfl rfl, preU hP hD (pmB (bS cy a v) 2 _ (cD cy (a 2) v.2.2) rfl).1 hK hE hS hA⟩ rfl rfl hl.1 rfl (lv_room (Nat.le_of_ble_eq_true rfl)) dX3_deskSays_19 ⟨Nat.le_of_ble_eq_true rfl, Nat.le_of_ble_eq_true rfl⟩) hP hD (pmB (bS cy a v) 2 _ (cD cy (a 2) v.2.2) rfl).1 hS hA (fun H locs hP hD hS => ?_)
    have hP : va_P D vwCl (cS cy a v) H := vP_perm hP (pmB (bS cy a v) 2 _ (cD cy (a 2) v.2.2) rfl).2
    have hD : va_D A (cS cy a v) := vD_perm hD (pmB (bS cy a v) 2 _ (cD cy (a 2) v.2.2) rfl).2
    refine x_iald (f := (v.2.2 1)) (j := (r_X0_noteFor v.2.2 pl ((v.1 0) 0)).toNatClampNeg) hx hb hK hP 16 0 rfl rfl rfl (note_in _ _ _ hsz2) dX3_deskSays_22 ?_
    refine lv_aload_n hx hb dX3_deskSays_23 rfl (lv_at hl 1 rfl) ?_
    refine va_get (D := D) (ci := 2) (v := .ref ((a 0) 1)) (C := RX3) (T := TX3) (N := 11) hx hb hts inX3_deskSays_X3 hown hK hP 0 rfl rfl 0 (by decide) (hts _ (List.mem_of_getElem? (i := 3) rfl)) (fun _ h9 => h9) rfl dX3_deskSays_24 ?_
    refine lv_iconst (v := 1) hx hb dX3_deskSays_27 (by decide) ?_
    refine x_iald (f := (v.1 0)) (j := 1) hx hb hK hP 1 0 rfl rfl rfl (vp_c (by decide)) dX3_deskSays_28 ?_
    have J37_5 : ∀ (z_5 : Int32) (hz_5 : z_5 = (if ((v.2.2 1) (r_X0_noteFor v.2.2 pl ((v.1 0) 0)).toNatClampNeg) < ((v.1 0) 1) then (0 : Int32) else (1 : Int32))) (H : Heap) (locs : List Loc), va_P D vwCl (cS cy a v) H → va_D A (cS cy a v) → va_S A s.heap H locs → ∀ ls : Array Slot, lv_has ls 4 [(0, .ref (a 0 0)), (1, .int (1 : Int32)), (2, .int pl), (3, .ref ((a 2) 0))] → W pp l e rX3_deskSays s m ([.ref (a 0 0), .int (1 : Int32), .int pl] : List Value).toArray below meth c H locs 0 0 Q (F0 m 37 ls [.int z_5]) := by
      intro z_5 hz_5 H locs hP hD hS ls hl
      subst hz_5
      have hr9 : (if ((v.2.2 1) (r_X0_noteFor v.2.2 pl ((v.1 0) 0)).toNatClampNeg) < ((v.1 0) 1) then (0 : Int32) else (1 : Int32)) = (r_X3_deskSays v (1 : Int32) pl) := by unfold r_X3_deskSays; simp only [if_neg hd1, if_true, if_false]
      exact hret _ H locs _ ls hr9 hP hD hS dX3_deskSays_37
    refine lv_icmp_lt (tgt := 36) hx hb dX3_deskSays_29 (by decide) (fun c_4 => ?_) (fun c_4 => ?_)
    · refine lv_iconst (v := 0) hx hb dX3_deskSays_36 (by decide) ?_
      exact J37_5 (0 : Int32) (by simp only [if_pos c_4, if_true, if_false]) H locs hP hD hS ls (lv_sub hl [1, 2, 3, 0] rfl)
    · refine lv_iconst (v := 1) hx hb dX3_deskSays_32 (by decide) ?_
      refine lv_goto (tgt := 37) hx hb dX3_deskSays_33 (by decide) ?_
      exact J37_5 (1 : Int32) (by simp only [if_neg c_4, if_true, if_false]) H locs hP hD hS ls (lv_sub hl [1, 2, 3, 0] rfl)

def r_X3_guessFor (v : SV) (pl : Int32) : Int32 := (r_X3_deskSays v (if (2 : Int32) ≤ ((v.1 1) pl.toNatClampNeg) then (1 : Int32) else (0 : Int32)) pl)
abbrev rX3_guessFor : Room := { frames := 3, cells := 0, slots := 0, locals := 68 }
theorem inX3_guessFor_X3 : ∀ w ∈ u_ws RX3 TX3 11, w ∈ wsX3_guessFor := by decide +kernel
set_option maxHeartbeats 4000000 in
set_option maxRecDepth 100000 in
theorem c_X3_guessFor (l : Launch) (D : va_G) (cy : Nat → ClassId) (a : Nat → Nat → Nat) (v : SV) (pl : Int32) (sz : Nat) (hpl : vp_in pl 26) (hsz2 : szok (v.1 0 0)) : CI l yX3_guessFor wsX3_guessFor rX3_guessFor D cy [.ref (a 0 0), .int pl] (cS cy a v) sz (r_X3_guessFor v pl) (cS cy a v) 0 0 := by
  refine st_i (ty := .boolean) (cc := cX3_guessFor) (maxL := 2) (by decide) rfl (zn_X3_deskSays _ _ _) (Nat.le_of_ble_eq_true rfl) ?_
  intro pp e s m below meth c A Q ls hx hb hts hown hml hlocks hsz hP hK hD hE hA hl hret
  subst hsz
  have hown : s.vm.findClass RX3 = some m.cls := hown
  have hl : lv_has ls 2 [(0, .ref (a 0 0)), (1, .int pl)] := hl
  obtain ⟨H, hH⟩ : ∃ H, H = s.heap := ⟨_, rfl⟩
  rw [← hH] at hP ⊢
  have hS : va_S A s.heap H [] := by rw [hH]; exact va_S.rf
  obtain ⟨locs, hlo⟩ : ∃ locs : List Loc, locs = [] := ⟨_, rfl⟩
  rw [← hlo] at hS ⊢
  refine lv_aload_n hx hb dX3_guessFor_0 rfl (lv_at hl 0 rfl) ?_
  refine lv_aload_n hx hb dX3_guessFor_1 rfl (lv_at hl 0 rfl) ?_
  refine va_get (D := D) (ci := 2) (v := .ref ((a 0) 3)) (C := RX3) (T := TX3) (N := 11) hx hb hts inX3_guessFor_X3 hown hK hP 0 rfl rfl 2 (by decide) (hts _ (List.mem_of_getElem? (i := 1) rfl)) (fun _ h9 => h9) rfl dX3_guessFor_2 ?_
  refine lv_iload_n hx hb dX3_guessFor_5 rfl (lv_at hl 1 rfl) ?_
  refine x_iald (f := (v.1 1)) (j := pl.toNatClampNeg) hx hb hK hP 3 0 rfl rfl rfl hpl dX3_guessFor_6 ?_
  refine lv_iconst (v := 2) hx hb dX3_guessFor_7 (by decide) ?_
  have J16_2 : ∀ (z_2 : Int32) (hz_2 : z_2 = (if (2 : Int32) ≤ ((v.1 1) pl.toNatClampNeg) then (1 : Int32) else (0 : Int32))) (H : Heap) (locs : List Loc), va_P D vwCl (cS cy a v) H → va_D A (cS cy a v) → va_S A s.heap H locs → ∀ ls : Array Slot, lv_has ls 2 [(0, .ref (a 0 0)), (1, .int pl)] → W pp l e rX3_guessFor s m ([.ref (a 0 0), .int pl] : List Value).toArray below meth c H locs 0 0 Q (F0 m 16 ls [.int z_2, .ref (a 0 0)]) := by
    intro z_2 hz_2 H locs hP hD hS ls hl
    subst hz_2
    refine lv_iload_n hx hb dX3_guessFor_16 rfl (lv_at hl 1 rfl) ?_
    refine cl_i (va_runV (As := [.int (if (2 : Int32) ≤ ((v.1 1) pl.toNatClampNeg) then (1 : Int32) else (0 : Int32)), .int pl]) (rest := []) ⟨hx, hb, hml, hown, hts⟩ (c_X3_deskSays l D cy a v (if (2 : Int32) ≤ ((v.1 1) pl.toNatClampNeg) then (1 : Int32) else (0 : Int32)) pl H.size (by split <;> simp) hpl hsz2) (cwV 2 hts gX3_guessFor_X3_deskSays rfl rfl rfl (by decide +kernel) ⟨Nat.le_of_ble_eq_true rfl, Nat.le_of_ble_eq_true rfl⟩) ⟨blU, va_recv hK hP (ci := 2) (q0 := 0) rfl rfl, preU hP hD (pmI _) hK hE hS hA⟩ rfl rfl hl.1 rfl (lv_room (Nat.le_of_ble_eq_true rfl)) dX3_guessFor_17 ⟨Nat.le_of_ble_eq_true rfl, Nat.le_of_ble_eq_true rfl⟩) hP hD (pmI _) hS hA (fun H locs hP hD hS => ?_)
    have hP : va_P D vwCl (cS cy a v) H := vP_perm hP (pmI _).symm
    have hD : va_D A (cS cy a v) := vD_perm hD (pmI _).symm
    have hr9 : (r_X3_deskSays v (if (2 : Int32) ≤ ((v.1 1) pl.toNatClampNeg) then (1 : Int32) else (0 : Int32)) pl) = (r_X3_guessFor v pl) := by rfl
    exact hret _ H locs _ ls hr9 hP hD hS dX3_guessFor_20
  refine lv_icmp_ge (tgt := 15) hx hb dX3_guessFor_8 (by decide) (fun c_1 => ?_) (fun c_1 => ?_)
  · refine lv_iconst (v := 1) hx hb dX3_guessFor_15 (by decide) ?_
    exact J16_2 (1 : Int32) (by simp only [if_pos c_1, if_true, if_false]) H locs hP hD hS ls (lv_sub hl [0, 1] rfl)
  · refine lv_iconst (v := 0) hx hb dX3_guessFor_11 (by decide) ?_
    refine lv_goto (tgt := 16) hx hb dX3_guessFor_12 (by decide) ?_
    exact J16_2 (0 : Int32) (by simp only [if_neg c_1, if_true, if_false]) H locs hP hD hS ls (lv_sub hl [0, 1] rfl)

def w_X3_changeDesk (v : SV) (d : Int32) (what : Int32) (val2 : Int32) : SV := (if d = 0 then (w_X3_beginAnew (v.1, (mkD (upd (v.2.1 0) what.toNatClampNeg val2) (v.2.1 1) (v.2.1 2) (v.2.1 3) (v.2.1 4) (v.2.1 5) (v.2.1 6 0) (v.2.1 7 0)), v.2.2)) else (w_X3_beginAnew (v.1, v.2.1, (mkD (upd (v.2.2 0) what.toNatClampNeg val2) (v.2.2 1) (v.2.2 2) (v.2.2 3) (v.2.2 4) (v.2.2 5) (v.2.2 6 0) (v.2.2 7 0)))))
abbrev rX3_changeDesk : Room := { frames := 3, cells := 0, slots := 0, locals := 65 }
theorem inX3_changeDesk_X0 : ∀ w ∈ u_ws RX0 TX0 8, w ∈ wsX3_changeDesk := by decide +kernel
theorem inX3_changeDesk_X3 : ∀ w ∈ u_ws RX3 TX3 11, w ∈ wsX3_changeDesk := by decide +kernel
set_option maxHeartbeats 4000000 in
set_option maxRecDepth 100000 in
theorem c_X3_changeDesk (l : Launch) (D : va_G) (cy : Nat → ClassId) (a : Nat → Nat → Nat) (v : SV) (d : Int32) (what : Int32) (val2 : Int32) (sz : Nat) (hd : d = 0 ∨ d = 1) (hw : vp_in what 3) : CN l yX3_changeDesk wsX3_changeDesk rX3_changeDesk D cy [.ref (a 0 0), .int d, .int what, .int val2] (cS cy a v) sz (cS cy a (w_X3_changeDesk v d what val2)) 0 0 := by
  refine st_n (cc := cX3_changeDesk) (maxL := 4) (by decide) rfl (Nat.le_of_ble_eq_true rfl) ?_
  intro pp e s m below meth c A Q ls hx hb hts hown hml hlocks hsz hP hK hD hE hA hl hret
  subst hsz
  have hown : s.vm.findClass RX3 = some m.cls := hown
  have hl : lv_has ls 4 [(0, .ref (a 0 0)), (1, .int d), (2, .int what), (3, .int val2)] := hl
  obtain ⟨H, hH⟩ : ∃ H, H = s.heap := ⟨_, rfl⟩
  rw [← hH] at hP ⊢
  have hS : va_S A s.heap H [] := by rw [hH]; exact va_S.rf
  obtain ⟨locs, hlo⟩ : ∃ locs : List Loc, locs = [] := ⟨_, rfl⟩
  rw [← hlo] at hS ⊢
  rcases hd with hd | hd
  · subst hd
    have hd0 : (0 : Int32) = 0 := by decide
    have hl : lv_has ls 4 [(0, .ref (a 0 0)), (1, .int (0 : Int32)), (2, .int what), (3, .int val2)] := hl
    refine lv_aload_n hx hb dX3_changeDesk_0 rfl (lv_at hl 0 rfl) ?_
    refine va_get (D := D) (ci := 2) (v := .ref ((a 0) 2)) (C := RX3) (T := TX3) (N := 11) hx hb hts inX3_changeDesk_X3 hown hK hP 0 rfl rfl 1 (by decide) (hts _ (List.mem_of_getElem? (i := 1) rfl)) (fun _ h9 => h9) rfl dX3_changeDesk_1 ?_
    refine lv_iload_n hx hb dX3_changeDesk_4 rfl (lv_at hl 1 rfl) ?_
    refine x_aldq (v := .ref ((a 1) 0)) hx hb hK hP 2 2 rfl rfl (vp_c (by decide)) rfl dX3_changeDesk_5 ?_
    refine va_get (D := D) (ci := 0) (v := .ref ((a 1) 1)) (C := RX0) (T := TX0) (N := 8) hx hb hts inX3_changeDesk_X0 hown hK hP 7 rfl rfl 0 (by decide) (hts _ (List.mem_of_getElem? (i := 2) rfl)) (fun _ h9 => h9) rfl dX3_changeDesk_6 ?_
    refine lv_iload_n hx hb dX3_changeDesk_9 rfl (lv_at hl 2 rfl) ?_
    refine lv_iload_n hx hb dX3_changeDesk_10 rfl (lv_at hl 3 rfl) ?_
    refine x_iast (j := what.toNatClampNeg) hx hb hK hP hD hS 8 0 rfl rfl rfl hw dX3_changeDesk_11 (fun H locs hP hD hS => ?_)
    have hP : va_P D vwCl (cS cy a (v.1, (mkD (upd (v.2.1 0) what.toNatClampNeg val2) (v.2.1 1) (v.2.1 2) (v.2.1 3) (v.2.1 4) (v.2.1 5) (v.2.1 6 0) (v.2.1 7 0)), v.2.2)) H := hP
    have hD : va_D A (cS cy a (v.1, (mkD (upd (v.2.1 0) what.toNatClampNeg val2) (v.2.1 1) (v.2.1 2) (v.2.1 3) (v.2.1 4) (v.2.1 5) (v.2.1 6 0) (v.2.1 7 0)), v.2.2)) := hD
    refine lv_aload_n hx hb dX3_changeDesk_12 rfl (lv_at hl 0 rfl) ?_
    refine cl_n (va_runV (As := []) (rest := []) ⟨hx, hb, hml, hown, hts⟩ (c_X3_beginAnew l D cy a (v.1, (mkD (upd (v.2.1 0) what.toNatClampNeg val2) (v.2.1 1) (v.2.1 2) (v.2.1 3) (v.2.1 4) (v.2.1 5) (v.2.1 6 0) (v.2.1 7 0)), v.2.2) H.size) (cwV 0 hts gX3_changeDesk_X3_beginAnew rfl rfl rfl (by decide +kernel) ⟨Nat.le_of_ble_eq_true rfl, Nat.le_of_ble_eq_true rfl⟩) ⟨blU, va_recv hK hP (ci := 2) (q0 := 0) rfl rfl, preU hP hD (pmI _) hK hE hS hA⟩ rfl rfl hl.1 rfl (lv_room (Nat.le_of_ble_eq_true rfl)) dX3_changeDesk_13 ⟨Nat.le_of_ble_eq_true rfl, Nat.le_of_ble_eq_true rfl⟩) hP hD (pmI _) hS hA (fun H locs hP hD hS => ?_)
    have hP : va_P D vwCl (cS cy a (w_X3_beginAnew (v.1, (mkD (upd (v.2.1 0) what.toNatClampNeg val2) (v.2.1 1) (v.2.1 2) (v.2.1 3) (v.2.1 4) (v.2.1 5) (v.2.1 6 0) (v.2.1 7 0)), v.2.2))) H := vP_perm hP (pmI _).symm
    have hD : va_D A (cS cy a (w_X3_beginAnew (v.1, (mkD (upd (v.2.1 0) what.toNatClampNeg val2) (v.2.1 1) (v.2.1 2) (v.2.1 3) (v.2.1 4) (v.2.1 5) (v.2.1 6 0) (v.2.1 7 0)), v.2.2))) := vD_perm hD (pmI _).symm
    have hw9 : (w_X3_changeDesk v (0 : Int32) what val2) = (w_X3_beginAnew (v.1, (mkD (upd (v.2.1 0) what.toNatClampNeg val2) (v.2.1 1) (v.2.1 2) (v.2.1 3) (v.2.1 4) (v.2.1 5) (v.2.1 6 0) (v.2.1 7 0)), v.2.2)) := by unfold w_X3_changeDesk; simp only [if_pos hd0, if_true, if_false]
    exact hret H locs _ ls (by rw [hw9]; exact hP) (by rw [hw9]; exact hD) hS dX3_changeDesk_16
  · subst hd
    have hd1 : ¬ (1 : Int32) = 0 := by decide
    have hl : lv_has ls 4 [(0, .ref (a 0 0)), (1, .int (1 : Int32)), (2, .int what), (3, .int val2)] := hl
    refine lv_aload_n hx hb dX3_changeDesk_0 rfl (lv_at hl 0 rfl) ?_
    refine va_get (D := D) (ci := 2) (v := .ref ((a 0) 2)) (C := RX3) (T := TX3) (N := 11) hx hb hts inX3_changeDesk_X3 hown hK hP 0 rfl rfl 1 (by decide) (hts _ (List.mem_of_getElem? (i := 1) rfl)) (fun _ h9 => h9) rfl dX3_changeDesk_1 ?_
    refine lv_iload_n hx hb dX3_changeDesk_4 rfl (lv_at hl 1 rfl) ?_
    refine x_aldq (v := .ref ((a 2) 0)) hx hb hK hP 2 2 rfl rfl (vp_c (by decide)) rfl dX3_changeDesk_5 ?_
    refine va_get (D := D) (ci := 0) (v := .ref ((a 2) 1)) (C := RX0) (T := TX0) (N := 8) hx hb hts inX3_changeDesk_X0 hown hK hP 14 rfl rfl 0 (by decide) (hts _ (List.mem_of_getElem? (i := 2) rfl)) (fun _ h9 => h9) rfl dX3_changeDesk_6 ?_
    refine lv_iload_n hx hb dX3_changeDesk_9 rfl (lv_at hl 2 rfl) ?_
    refine lv_iload_n hx hb dX3_changeDesk_10 rfl (lv_at hl 3 rfl) ?_
    refine x_iast (j := what.toNatClampNeg) hx hb hK hP hD hS 15 0 rfl rfl rfl hw dX3_changeDesk_11 (fun H locs hP hD hS => ?_)
    have hP : va_P D vwCl (cS cy a (v.1, v.2.1, (mkD (upd (v.2.2 0) what.toNatClampNeg val2) (v.2.2 1) (v.2.2 2) (v.2.2 3) (v.2.2 4) (v.2.2 5) (v.2.2 6 0) (v.2.2 7 0)))) H := hP
    have hD : va_D A (cS cy a (v.1, v.2.1, (mkD (upd (v.2.2 0) what.toNatClampNeg val2) (v.2.2 1) (v.2.2 2) (v.2.2 3) (v.2.2 4) (v.2.2 5) (v.2.2 6 0) (v.2.2 7 0)))) := hD
    refine lv_aload_n hx hb dX3_changeDesk_12 rfl (lv_at hl 0 rfl) ?_
    refine cl_n (va_runV (As := []) (rest := []) ⟨hx, hb, hml, hown, hts⟩ (c_X3_beginAnew l D cy a (v.1, v.2.1, (mkD (upd (v.2.2 0) what.toNatClampNeg val2) (v.2.2 1) (v.2.2 2) (v.2.2 3) (v.2.2 4) (v.2.2 5) (v.2.2 6 0) (v.2.2 7 0))) H.size) (cwV 0 hts gX3_changeDesk_X3_beginAnew rfl rfl rfl (by decide +kernel) ⟨Nat.le_of_ble_eq_true rfl, Nat.le_of_ble_eq_true rfl⟩) ⟨blU, va_recv hK hP (ci := 2) (q0 := 0) rfl rfl, preU hP hD (pmI _) hK hE hS hA⟩ rfl rfl hl.1 rfl (lv_room (Nat.le_of_ble_eq_true rfl)) dX3_changeDesk_13 ⟨Nat.le_of_ble_eq_true rfl, Nat.le_of_ble_eq_true rfl⟩) hP hD (pmI _) hS hA (fun H locs hP hD hS => ?_)
    have hP : va_P D vwCl (cS cy a (w_X3_beginAnew (v.1, v.2.1, (mkD (upd (v.2.2 0) what.toNatClampNeg val2) (v.2.2 1) (v.2.2 2) (v.2.2 3) (v.2.2 4) (v.2.2 5) (v.2.2 6 0) (v.2.2 7 0))))) H := vP_perm hP (pmI _).symm
    have hD : va_D A (cS cy a (w_X3_beginAnew (v.1, v.2.1, (mkD (upd (v.2.2 0) what.toNatClampNeg val2) (v.2.2 1) (v.2.2 2) (v.2.2 3) (v.2.2 4) (v.2.2 5) (v.2.2 6 0) (v.2.2 7 0))))) := vD_perm hD (pmI _).symm
    have hw9 : (w_X3_changeDesk v (1 : Int32) what val2) = (w_X3_beginAnew (v.1, v.2.1, (mkD (upd (v.2.2 0) what.toNatClampNeg val2) (v.2.2 1) (v.2.2 2) (v.2.2 3) (v.2.2 4) (v.2.2 5) (v.2.2 6 0) (v.2.2 7 0)))) := by unfold w_X3_changeDesk; simp only [if_neg hd1, if_true, if_false]
    exact hret H locs _ ls (by rw [hw9]; exact hP) (by rw [hw9]; exact hD) hS dX3_changeDesk_16

def w_X3_moveChooser (v : SV) (pl : Int32) (tl : Int32) : SV := ((mkO (v.1 0) (if tl = 0 then (upd (v.1 1) pl.toNatClampNeg (if (((v.1 1) pl.toNatClampNeg) - (1 : Int32)) < (0 : Int32) then (0 : Int32) else (((v.1 1) pl.toNatClampNeg) - (1 : Int32)))) else (upd (v.1 1) pl.toNatClampNeg (if (3 : Int32) < (((v.1 1) pl.toNatClampNeg) + (1 : Int32)) then (3 : Int32) else (((v.1 1) pl.toNatClampNeg) + (1 : Int32))))) (v.1 2) (v.1 3) (v.1 4) (v.1 5 0) (v.1 6 0) (v.1 7 0) (v.1 8 0) (v.1 9 0)), v.2.1, v.2.2)
abbrev rX3_moveChooser : Room := { frames := 1, cells := 0, slots := 0, locals := 24 }
theorem inX3_moveChooser_X3 : ∀ w ∈ u_ws RX3 TX3 11, w ∈ wsX3_moveChooser := by decide +kernel
set_option maxHeartbeats 4000000 in
set_option maxRecDepth 100000 in
theorem c_X3_moveChooser (l : Launch) (D : va_G) (cy : Nat → ClassId) (a : Nat → Nat → Nat) (v : SV) (pl : Int32) (tl : Int32) (sz : Nat) (hpl : vp_in pl 26) : CN l yX3_moveChooser wsX3_moveChooser rX3_moveChooser D cy [.ref (a 0 0), .int pl, .int tl] (cS cy a v) sz (cS cy a (w_X3_moveChooser v pl tl)) 0 0 := by
  refine st_n (cc := cX3_moveChooser) (maxL := 3) (by decide) rfl (Nat.le_of_ble_eq_true rfl) ?_
  intro pp e s m below meth c A Q ls hx hb hts hown hml hlocks hsz hP hK hD hE hA hl hret
  subst hsz
  have hown : s.vm.findClass RX3 = some m.cls := hown
  have hl : lv_has ls 3 [(0, .ref (a 0 0)), (1, .int pl), (2, .int tl)] := hl
  obtain ⟨H, hH⟩ : ∃ H, H = s.heap := ⟨_, rfl⟩
  rw [← hH] at hP ⊢
  have hS : va_S A s.heap H [] := by rw [hH]; exact va_S.rf
  obtain ⟨locs, hlo⟩ : ∃ locs : List Loc, locs = [] := ⟨_, rfl⟩
  rw [← hlo] at hS ⊢
  refine lv_iload_n hx hb dX3_moveChooser_0 rfl (lv_at hl 2 rfl) ?_
  have J43_2 : ∀ (z_2 : Nat → Int32) (hz_2 : z_2 = (if tl = 0 then (upd (v.1 1) pl.toNatClampNeg (if (((v.1 1) pl.toNatClampNeg) - (1 : Int32)) < (0 : Int32) then (0 : Int32) else (((v.1 1) pl.toNatClampNeg) - (1 : Int32)))) else (upd (v.1 1) pl.toNatClampNeg (if (3 : Int32) < (((v.1 1) pl.toNatClampNeg) + (1 : Int32)) then (3 : Int32) else (((v.1 1) pl.toNatClampNeg) + (1 : Int32)))))) (H : Heap) (locs : List Loc), va_P D vwCl (cS cy a ((mkO (v.1 0) z_2 (v.1 2) (v.1 3) (v.1 4) (v.1 5 0) (v.1 6 0) (v.1 7 0) (v.1 8 0) (v.1 9 0)), v.2.1, v.2.2)) H → va_D A (cS cy a ((mkO (v.1 0) z_2 (v.1 2) (v.1 3) (v.1 4) (v.1 5 0) (v.1 6 0) (v.1 7 0) (v.1 8 0) (v.1 9 0)), v.2.1, v.2.2)) → va_S A s.heap H locs → ∀ ls : Array Slot, lv_has ls 3 [(0, .ref (a 0 0)), (1, .int pl), (2, .int tl)] → W pp l e rX3_moveChooser s m ([.ref (a 0 0), .int pl, .int tl] : List Value).toArray below meth c H locs 0 0 Q (F0 m 43 ls []) := by
    intro z_2 hz_2 H locs hP hD hS ls hl
    subst hz_2
    have hw9 : (w_X3_moveChooser v pl tl) = ((mkO (v.1 0) (if tl = 0 then (upd (v.1 1) pl.toNatClampNeg (if (((v.1 1) pl.toNatClampNeg) - (1 : Int32)) < (0 : Int32) then (0 : Int32) else (((v.1 1) pl.toNatClampNeg) - (1 : Int32)))) else (upd (v.1 1) pl.toNatClampNeg (if (3 : Int32) < (((v.1 1) pl.toNatClampNeg) + (1 : Int32)) then (3 : Int32) else (((v.1 1) pl.toNatClampNeg) + (1 : Int32))))) (v.1 2) (v.1 3) (v.1 4) (v.1 5 0) (v.1 6 0) (v.1 7 0) (v.1 8 0) (v.1 9 0)), v.2.1, v.2.2) := by rfl
    exact hret H locs _ ls (by rw [hw9]; exact hP) (by rw [hw9]; exact hD) hS dX3_moveChooser_43
  refine lv_if_eq (tgt := 25) hx hb dX3_moveChooser_1 (by decide) (fun c_1 => ?_) (fun c_1 => ?_)
  · refine lv_aload_n hx hb dX3_moveChooser_25 rfl (lv_at hl 0 rfl) ?_
    refine va_get (D := D) (ci := 2) (v := .ref ((a 0) 3)) (C := RX3) (T := TX3) (N := 11) hx hb hts inX3_moveChooser_X3 hown hK hP 0 rfl rfl 2 (by decide) (hts _ (List.mem_of_getElem? (i := 1) rfl)) (fun _ h9 => h9) rfl dX3_moveChooser_26 ?_
    refine lv_iload_n hx hb dX3_moveChooser_29 rfl (lv_at hl 1 rfl) ?_
    refine lv_aload_n hx hb dX3_moveChooser_30 rfl (lv_at hl 0 rfl) ?_
    refine va_get (D := D) (ci := 2) (v := .ref ((a 0) 3)) (C := RX3) (T := TX3) (N := 11) hx hb hts inX3_moveChooser_X3 hown hK hP 0 rfl rfl 2 (by decide) (hts _ (List.mem_of_getElem? (i := 1) rfl)) (fun _ h9 => h9) rfl dX3_moveChooser_31 ?_
    refine lv_iload_n hx hb dX3_moveChooser_34 rfl (lv_at hl 1 rfl) ?_
    refine x_iald (f := (v.1 1)) (j := pl.toNatClampNeg) hx hb hK hP 3 0 rfl rfl rfl hpl dX3_moveChooser_35 ?_
    refine lv_iconst (v := 1) hx hb dX3_moveChooser_36 (by decide) ?_
    refine lv_isub hx hb dX3_moveChooser_37 ?_
    refine lv_iconst (v := 0) hx hb dX3_moveChooser_38 (by decide) ?_
    refine va_mmax hx hb (hml.trans hl.1.symm) hown (hts _ (List.mem_of_getElem? (i := 6) rfl)) (hts _ (List.mem_of_getElem? (i := 7) rfl)) (hts _ (List.mem_of_getElem? (i := 4) rfl)) (hts _ (List.mem_of_getElem? (i := 8) rfl)) (Nat.le_of_ble_eq_true rfl) (Nat.le_of_ble_eq_true rfl) (Nat.le_of_ble_eq_true rfl) (Nat.le_of_ble_eq_true rfl) dX3_moveChooser_39 ?_
    refine x_iast (j := pl.toNatClampNeg) hx hb hK hP hD hS 3 0 rfl rfl rfl hpl dX3_moveChooser_42 (fun H locs hP hD hS => ?_)
    have hP : va_P D vwCl (cS cy a ((mkO (v.1 0) (upd (v.1 1) pl.toNatClampNeg (if (((v.1 1) pl.toNatClampNeg) - (1 : Int32)) < (0 : Int32) then (0 : Int32) else (((v.1 1) pl.toNatClampNeg) - (1 : Int32)))) (v.1 2) (v.1 3) (v.1 4) (v.1 5 0) (v.1 6 0) (v.1 7 0) (v.1 8 0) (v.1 9 0)), v.2.1, v.2.2)) H := hP
    have hD : va_D A (cS cy a ((mkO (v.1 0) (upd (v.1 1) pl.toNatClampNeg (if (((v.1 1) pl.toNatClampNeg) - (1 : Int32)) < (0 : Int32) then (0 : Int32) else (((v.1 1) pl.toNatClampNeg) - (1 : Int32)))) (v.1 2) (v.1 3) (v.1 4) (v.1 5 0) (v.1 6 0) (v.1 7 0) (v.1 8 0) (v.1 9 0)), v.2.1, v.2.2)) := hD
    exact J43_2 (upd (v.1 1) pl.toNatClampNeg (if (((v.1 1) pl.toNatClampNeg) - (1 : Int32)) < (0 : Int32) then (0 : Int32) else (((v.1 1) pl.toNatClampNeg) - (1 : Int32)))) (by simp only [if_pos c_1, if_true, if_false]) H locs hP hD hS ls (lv_sub hl [0, 1, 2] rfl)
  · refine lv_aload_n hx hb dX3_moveChooser_4 rfl (lv_at hl 0 rfl) ?_
    refine va_get (D := D) (ci := 2) (v := .ref ((a 0) 3)) (C := RX3) (T := TX3) (N := 11) hx hb hts inX3_moveChooser_X3 hown hK hP 0 rfl rfl 2 (by decide) (hts _ (List.mem_of_getElem? (i := 1) rfl)) (fun _ h9 => h9) rfl dX3_moveChooser_5 ?_
    refine lv_iload_n hx hb dX3_moveChooser_8 rfl (lv_at hl 1 rfl) ?_
    refine lv_aload_n hx hb dX3_moveChooser_9 rfl (lv_at hl 0 rfl) ?_
    refine va_get (D := D) (ci := 2) (v := .ref ((a 0) 3)) (C := RX3) (T := TX3) (N := 11) hx hb hts inX3_moveChooser_X3 hown hK hP 0 rfl rfl 2 (by decide) (hts _ (List.mem_of_getElem? (i := 1) rfl)) (fun _ h9 => h9) rfl dX3_moveChooser_10 ?_
    refine lv_iload_n hx hb dX3_moveChooser_13 rfl (lv_at hl 1 rfl) ?_
    refine x_iald (f := (v.1 1)) (j := pl.toNatClampNeg) hx hb hK hP 3 0 rfl rfl rfl hpl dX3_moveChooser_14 ?_
    refine lv_iconst (v := 1) hx hb dX3_moveChooser_15 (by decide) ?_
    refine lv_iadd hx hb dX3_moveChooser_16 ?_
    refine lv_iconst (v := 3) hx hb dX3_moveChooser_17 (by decide) ?_
    refine va_mmin hx hb (hml.trans hl.1.symm) hown (hts _ (List.mem_of_getElem? (i := 2) rfl)) (hts _ (List.mem_of_getElem? (i := 3) rfl)) (hts _ (List.mem_of_getElem? (i := 4) rfl)) (hts _ (List.mem_of_getElem? (i := 5) rfl)) (Nat.le_of_ble_eq_true rfl) (Nat.le_of_ble_eq_true rfl) (Nat.le_of_ble_eq_true rfl) (Nat.le_of_ble_eq_true rfl) dX3_moveChooser_18 ?_
    refine x_iast (j := pl.toNatClampNeg) hx hb hK hP hD hS 3 0 rfl rfl rfl hpl dX3_moveChooser_21 (fun H locs hP hD hS => ?_)
    have hP : va_P D vwCl (cS cy a ((mkO (v.1 0) (upd (v.1 1) pl.toNatClampNeg (if (3 : Int32) < (((v.1 1) pl.toNatClampNeg) + (1 : Int32)) then (3 : Int32) else (((v.1 1) pl.toNatClampNeg) + (1 : Int32)))) (v.1 2) (v.1 3) (v.1 4) (v.1 5 0) (v.1 6 0) (v.1 7 0) (v.1 8 0) (v.1 9 0)), v.2.1, v.2.2)) H := hP
    have hD : va_D A (cS cy a ((mkO (v.1 0) (upd (v.1 1) pl.toNatClampNeg (if (3 : Int32) < (((v.1 1) pl.toNatClampNeg) + (1 : Int32)) then (3 : Int32) else (((v.1 1) pl.toNatClampNeg) + (1 : Int32)))) (v.1 2) (v.1 3) (v.1 4) (v.1 5 0) (v.1 6 0) (v.1 7 0) (v.1 8 0) (v.1 9 0)), v.2.1, v.2.2)) := hD
    refine lv_goto (tgt := 43) hx hb dX3_moveChooser_22 (by decide) ?_
    exact J43_2 (upd (v.1 1) pl.toNatClampNeg (if (3 : Int32) < (((v.1 1) pl.toNatClampNeg) + (1 : Int32)) then (3 : Int32) else (((v.1 1) pl.toNatClampNeg) + (1 : Int32)))) (by simp only [if_neg c_1, if_true, if_false]) H locs hP hD hS ls (lv_sub hl [0, 1, 2] rfl)

def w_X3_countGuess (v : SV) (pl : Int32) (tk : Int32) (gs : Int32) : SV := ((mkO (v.1 0) (v.1 1) (upd (v.1 2) pl.toNatClampNeg (((v.1 2) pl.toNatClampNeg) + (1 : Int32))) (if tk = 0 then (v.1 3) else (upd (v.1 3) pl.toNatClampNeg (((v.1 3) pl.toNatClampNeg) + (1 : Int32)))) (if gs = 0 then (v.1 4) else (upd (v.1 4) pl.toNatClampNeg (((v.1 4) pl.toNatClampNeg) + (1 : Int32)))) ((v.1 5 0) + (1 : Int32)) (if gs = 0 then (v.1 6 0) else ((v.1 6 0) + (1 : Int32))) (if gs = 0 then ((v.1 7 0) - ((v.1 0) 2)) else ((v.1 7 0) + (1 : Int32))) (if gs = 0 then (0 : Int32) else ((v.1 8 0) + (1 : Int32))) (if gs = 0 then (v.1 9 0) else (if (v.1 9 0) < ((v.1 8 0) + (1 : Int32)) then ((v.1 8 0) + (1 : Int32)) else (v.1 9 0)))), v.2.1, v.2.2)
abbrev rX3_countGuess : Room := { frames := 1, cells := 0, slots := 0, locals := 24 }
theorem inX3_countGuess_X3 : ∀ w ∈ u_ws RX3 TX3 11, w ∈ wsX3_countGuess := by decide +kernel
set_option maxHeartbeats 4000000 in
set_option maxRecDepth 100000 in
theorem c_X3_countGuess (l : Launch) (D : va_G) (cy : Nat → ClassId) (a : Nat → Nat → Nat) (v : SV) (pl : Int32) (tk : Int32) (gs : Int32) (sz : Nat) (hpl : vp_in pl 26) : CN l yX3_countGuess wsX3_countGuess rX3_countGuess D cy [.ref (a 0 0), .int pl, .int tk, .int gs] (cS cy a v) sz (cS cy a (w_X3_countGuess v pl tk gs)) 0 0 := by
  refine st_n (cc := cX3_countGuess) (maxL := 4) (by decide) rfl (Nat.le_of_ble_eq_true rfl) ?_
  intro pp e s m below meth c A Q ls hx hb hts hown hml hlocks hsz hP hK hD hE hA hl hret
  subst hsz
  have hown : s.vm.findClass RX3 = some m.cls := hown
  have hl : lv_has ls 4 [(0, .ref (a 0 0)), (1, .int pl), (2, .int tk), (3, .int gs)] := hl
  obtain ⟨H, hH⟩ : ∃ H, H = s.heap := ⟨_, rfl⟩
  rw [← hH] at hP ⊢
  have hS : va_S A s.heap H [] := by rw [hH]; exact va_S.rf
  obtain ⟨locs, hlo⟩ : ∃ locs : List Loc, locs = [] := ⟨_, rfl⟩
  rw [← hlo] at hS ⊢
  refine lv_aload_n hx hb dX3_countGuess_0 rfl (lv_at hl 0 rfl) ?_
  refine lv_dup hx hb dX3_countGuess_1 rfl ?_
  refine va_get (D := D) (ci := 2) (v := .int (v.1 5 0)) (C := RX3) (T := TX3) (N := 11) hx hb hts inX3_countGuess_X3 hown hK hP 0 rfl rfl 6 (by decide) (hts _ (List.mem_of_getElem? (i := 1) rfl)) (fun _ h9 => h9) rfl dX3_countGuess_2 ?_
  refine lv_iconst (v := 1) hx hb dX3_countGuess_5 (by decide) ?_
  refine lv_iadd hx hb dX3_countGuess_6 ?_
  refine va_put (D := D) (ci := 2) (v := .int ((v.1 5 0) + (1 : Int32))) (ty := .int) (C := RX3) (T := TX3) (N := 11) hx hb hts inX3_countGuess_X3 tyX3 tyX3_ok nmX3 hown hK hP hD hS 0 rfl rfl 6 (by decide) (hts _ (List.mem_of_getElem? (i := 1) rfl)) (fun _ h9 => h9) rfl (by decide +kernel) rfl rfl (Nat.le_of_ble_eq_true rfl) dX3_countGuess_7 (fun H locs hP hD hS => ?_)
  have hP : va_P D vwCl (cS cy a ((mkO (v.1 0) (v.1 1) (v.1 2) (v.1 3) (v.1 4) ((v.1 5 0) + (1 : Int32)) (v.1 6 0) (v.1 7 0) (v.1 8 0) (v.1 9 0)), v.2.1, v.2.2)) H := hP
  have hD : va_D A (cS cy a ((mkO (v.1 0) (v.1 1) (v.1 2) (v.1 3) (v.1 4) ((v.1 5 0) + (1 : Int32)) (v.1 6 0) (v.1 7 0) (v.1 8 0) (v.1 9 0)), v.2.1, v.2.2)) := hD
  refine lv_aload_n hx hb dX3_countGuess_10 rfl (lv_at hl 0 rfl) ?_
  refine va_get (D := D) (ci := 2) (v := .ref ((a 0) 4)) (C := RX3) (T := TX3) (N := 11) hx hb hts inX3_countGuess_X3 hown hK hP 0 rfl rfl 3 (by decide) (hts _ (List.mem_of_getElem? (i := 2) rfl)) (fun _ h9 => h9) rfl dX3_countGuess_11 ?_
  refine lv_iload_n hx hb dX3_countGuess_14 rfl (lv_at hl 1 rfl) ?_
  refine lv_dup2_11 hx hb dX3_countGuess_15 rfl rfl ?_
  refine x_iald (f := (v.1 2)) (j := pl.toNatClampNeg) hx hb hK hP 4 0 rfl rfl rfl hpl dX3_countGuess_16 ?_
  refine lv_iconst (v := 1) hx hb dX3_countGuess_17 (by decide) ?_
  refine lv_iadd hx hb dX3_countGuess_18 ?_
  refine x_iast (j := pl.toNatClampNeg) hx hb hK hP hD hS 4 0 rfl rfl rfl hpl dX3_countGuess_19 (fun H locs hP hD hS => ?_)
  have hP : va_P D vwCl (cS cy a ((mkO (v.1 0) (v.1 1) (upd (v.1 2) pl.toNatClampNeg (((v.1 2) pl.toNatClampNeg) + (1 : Int32))) (v.1 3) (v.1 4) ((v.1 5 0) + (1 : Int32)) (v.1 6 0) (v.1 7 0) (v.1 8 0) (v.1 9 0)), v.2.1, v.2.2)) H := hP
  have hD : va_D A (cS cy a ((mkO (v.1 0) (v.1 1) (upd (v.1 2) pl.toNatClampNeg (((v.1 2) pl.toNatClampNeg) + (1 : Int32))) (v.1 3) (v.1 4) ((v.1 5 0) + (1 : Int32)) (v.1 6 0) (v.1 7 0) (v.1 8 0) (v.1 9 0)), v.2.1, v.2.2)) := hD
  refine lv_iload_n hx hb dX3_countGuess_20 rfl (lv_at hl 2 rfl) ?_
  have J34_2 : ∀ (z_2 : Nat → Int32) (hz_2 : z_2 = (if tk = 0 then (v.1 3) else (upd (v.1 3) pl.toNatClampNeg (((v.1 3) pl.toNatClampNeg) + (1 : Int32))))) (H : Heap) (locs : List Loc), va_P D vwCl (cS cy a ((mkO (v.1 0) (v.1 1) (upd (v.1 2) pl.toNatClampNeg (((v.1 2) pl.toNatClampNeg) + (1 : Int32))) z_2 (v.1 4) ((v.1 5 0) + (1 : Int32)) (v.1 6 0) (v.1 7 0) (v.1 8 0) (v.1 9 0)), v.2.1, v.2.2)) H → va_D A (cS cy a ((mkO (v.1 0) (v.1 1) (upd (v.1 2) pl.toNatClampNeg (((v.1 2) pl.toNatClampNeg) + (1 : Int32))) z_2 (v.1 4) ((v.1 5 0) + (1 : Int32)) (v.1 6 0) (v.1 7 0) (v.1 8 0) (v.1 9 0)), v.2.1, v.2.2)) → va_S A s.heap H locs → ∀ ls : Array Slot, lv_has ls 4 [(0, .ref (a 0 0)), (1, .int pl), (2, .int tk), (3, .int gs)] → W pp l e rX3_countGuess s m ([.ref (a 0 0), .int pl, .int tk, .int gs] : List Value).toArray below meth c H locs 0 0 Q (F0 m 34 ls []) := by
    intro z_2 hz_2 H locs hP hD hS ls hl
    subst hz_2
    refine lv_iload_n hx hb dX3_countGuess_34 rfl (lv_at hl 3 rfl) ?_
    have J116_9 : ∀ (z_5 : Nat → Int32) (hz_5 : z_5 = (if gs = 0 then (v.1 4) else (upd (v.1 4) pl.toNatClampNeg (((v.1 4) pl.toNatClampNeg) + (1 : Int32))))) (z_6 : Int32) (hz_6 : z_6 = (if gs = 0 then (v.1 6 0) else ((v.1 6 0) + (1 : Int32)))) (z_7 : Int32) (hz_7 : z_7 = (if gs = 0 then ((v.1 7 0) - ((v.1 0) 2)) else ((v.1 7 0) + (1 : Int32)))) (z_8 : Int32) (hz_8 : z_8 = (if gs = 0 then (0 : Int32) else ((v.1 8 0) + (1 : Int32)))) (z_9 : Int32) (hz_9 : z_9 = (if gs = 0 then (v.1 9 0) else (if (v.1 9 0) < ((v.1 8 0) + (1 : Int32)) then ((v.1 8 0) + (1 : Int32)) else (v.1 9 0)))) (H : Heap) (locs : List Loc), va_P D vwCl (cS cy a ((mkO (v.1 0) (v.1 1) (upd (v.1 2) pl.toNatClampNeg (((v.1 2) pl.toNatClampNeg) + (1 : Int32))) (if tk = 0 then (v.1 3) else (upd (v.1 3) pl.toNatClampNeg (((v.1 3) pl.toNatClampNeg) + (1 : Int32)))) z_5 ((v.1 5 0) + (1 : Int32)) z_6 z_7 z_8 z_9), v.2.1, v.2.2)) H → va_D A (cS cy a ((mkO (v.1 0) (v.1 1) (upd (v.1 2) pl.toNatClampNeg (((v.1 2) pl.toNatClampNeg) + (1 : Int32))) (if tk = 0 then (v.1 3) else (upd (v.1 3) pl.toNatClampNeg (((v.1 3) pl.toNatClampNeg) + (1 : Int32)))) z_5 ((v.1 5 0) + (1 : Int32)) z_6 z_7 z_8 z_9), v.2.1, v.2.2)) → va_S A s.heap H locs → ∀ ls : Array Slot, lv_has ls 4 [(0, .ref (a 0 0)), (1, .int pl), (2, .int tk), (3, .int gs)] → W pp l e rX3_countGuess s m ([.ref (a 0 0), .int pl, .int tk, .int gs] : List Value).toArray below meth c H locs 0 0 Q (F0 m 116 ls []) := by
      intro z_5 hz_5 z_6 hz_6 z_7 hz_7 z_8 hz_8 z_9 hz_9 H locs hP hD hS ls hl
      subst hz_5
      subst hz_6
      subst hz_7
      subst hz_8
      subst hz_9
      have hw9 : (w_X3_countGuess v pl tk gs) = ((mkO (v.1 0) (v.1 1) (upd (v.1 2) pl.toNatClampNeg (((v.1 2) pl.toNatClampNeg) + (1 : Int32))) (if tk = 0 then (v.1 3) else (upd (v.1 3) pl.toNatClampNeg (((v.1 3) pl.toNatClampNeg) + (1 : Int32)))) (if gs = 0 then (v.1 4) else (upd (v.1 4) pl.toNatClampNeg (((v.1 4) pl.toNatClampNeg) + (1 : Int32)))) ((v.1 5 0) + (1 : Int32)) (if gs = 0 then (v.1 6 0) else ((v.1 6 0) + (1 : Int32))) (if gs = 0 then ((v.1 7 0) - ((v.1 0) 2)) else ((v.1 7 0) + (1 : Int32))) (if gs = 0 then (0 : Int32) else ((v.1 8 0) + (1 : Int32))) (if gs = 0 then (v.1 9 0) else (if (v.1 9 0) < ((v.1 8 0) + (1 : Int32)) then ((v.1 8 0) + (1 : Int32)) else (v.1 9 0)))), v.2.1, v.2.2) := by rfl
      exact hret H locs _ ls (by rw [hw9]; exact hP) (by rw [hw9]; exact hD) hS dX3_countGuess_116
    refine lv_if_eq (tgt := 96) hx hb dX3_countGuess_35 (by decide) (fun c_4 => ?_) (fun c_4 => ?_)
    · refine lv_aload_n hx hb dX3_countGuess_96 rfl (lv_at hl 0 rfl) ?_
      refine lv_dup hx hb dX3_countGuess_97 rfl ?_
      refine va_get (D := D) (ci := 2) (v := .int (v.1 7 0)) (C := RX3) (T := TX3) (N := 11) hx hb hts inX3_countGuess_X3 hown hK hP 0 rfl rfl 8 (by decide) (hts _ (List.mem_of_getElem? (i := 6) rfl)) (fun _ h9 => h9) rfl dX3_countGuess_98 ?_
      refine lv_aload_n hx hb dX3_countGuess_101 rfl (lv_at hl 0 rfl) ?_
      refine va_get (D := D) (ci := 2) (v := .ref ((a 0) 1)) (C := RX3) (T := TX3) (N := 11) hx hb hts inX3_countGuess_X3 hown hK hP 0 rfl rfl 0 (by decide) (hts _ (List.mem_of_getElem? (i := 13) rfl)) (fun _ h9 => h9) rfl dX3_countGuess_102 ?_
      refine lv_iconst (v := 2) hx hb dX3_countGuess_105 (by decide) ?_
      refine x_iald (f := (v.1 0)) (j := 2) hx hb hK hP 1 0 rfl rfl rfl (vp_c (by decide)) dX3_countGuess_106 ?_
      refine lv_isub hx hb dX3_countGuess_107 ?_
      refine va_put (D := D) (ci := 2) (v := .int ((v.1 7 0) - ((v.1 0) 2))) (ty := .int) (C := RX3) (T := TX3) (N := 11) hx hb hts inX3_countGuess_X3 tyX3 tyX3_ok nmX3 hown hK hP hD hS 0 rfl rfl 8 (by decide) (hts _ (List.mem_of_getElem? (i := 6) rfl)) (fun _ h9 => h9) rfl (by decide +kernel) rfl rfl (Nat.le_of_ble_eq_true rfl) dX3_countGuess_108 (fun H locs hP hD hS => ?_)
      have hP : va_P D vwCl (cS cy a ((mkO (v.1 0) (v.1 1) (upd (v.1 2) pl.toNatClampNeg (((v.1 2) pl.toNatClampNeg) + (1 : Int32))) (if tk = 0 then (v.1 3) else (upd (v.1 3) pl.toNatClampNeg (((v.1 3) pl.toNatClampNeg) + (1 : Int32)))) (v.1 4) ((v.1 5 0) + (1 : Int32)) (v.1 6 0) ((v.1 7 0) - ((v.1 0) 2)) (v.1 8 0) (v.1 9 0)), v.2.1, v.2.2)) H := hP
      have hD : va_D A (cS cy a ((mkO (v.1 0) (v.1 1) (upd (v.1 2) pl.toNatClampNeg (((v.1 2) pl.toNatClampNeg) + (1 : Int32))) (if tk = 0 then (v.1 3) else (upd (v.1 3) pl.toNatClampNeg (((v.1 3) pl.toNatClampNeg) + (1 : Int32)))) (v.1 4) ((v.1 5 0) + (1 : Int32)) (v.1 6 0) ((v.1 7 0) - ((v.1 0) 2)) (v.1 8 0) (v.1 9 0)), v.2.1, v.2.2)) := hD
      refine lv_aload_n hx hb dX3_countGuess_111 rfl (lv_at hl 0 rfl) ?_
      refine lv_iconst (v := 0) hx hb dX3_countGuess_112 (by decide) ?_
      refine va_put (D := D) (ci := 2) (v := .int (0 : Int32)) (ty := .int) (C := RX3) (T := TX3) (N := 11) hx hb hts inX3_countGuess_X3 tyX3 tyX3_ok nmX3 hown hK hP hD hS 0 rfl rfl 9 (by decide) (hts _ (List.mem_of_getElem? (i := 7) rfl)) (fun _ h9 => h9) rfl (by decide +kernel) rfl rfl (Nat.le_of_ble_eq_true rfl) dX3_countGuess_113 (fun H locs hP hD hS => ?_)
      have hP : va_P D vwCl (cS cy a ((mkO (v.1 0) (v.1 1) (upd (v.1 2) pl.toNatClampNeg (((v.1 2) pl.toNatClampNeg) + (1 : Int32))) (if tk = 0 then (v.1 3) else (upd (v.1 3) pl.toNatClampNeg (((v.1 3) pl.toNatClampNeg) + (1 : Int32)))) (v.1 4) ((v.1 5 0) + (1 : Int32)) (v.1 6 0) ((v.1 7 0) - ((v.1 0) 2)) (0 : Int32) (v.1 9 0)), v.2.1, v.2.2)) H := hP
      have hD : va_D A (cS cy a ((mkO (v.1 0) (v.1 1) (upd (v.1 2) pl.toNatClampNeg (((v.1 2) pl.toNatClampNeg) + (1 : Int32))) (if tk = 0 then (v.1 3) else (upd (v.1 3) pl.toNatClampNeg (((v.1 3) pl.toNatClampNeg) + (1 : Int32)))) (v.1 4) ((v.1 5 0) + (1 : Int32)) (v.1 6 0) ((v.1 7 0) - ((v.1 0) 2)) (0 : Int32) (v.1 9 0)), v.2.1, v.2.2)) := hD
      exact J116_9 (v.1 4) (by simp only [if_pos c_4, if_true, if_false]) (v.1 6 0) (by simp only [if_pos c_4, if_true, if_false]) ((v.1 7 0) - ((v.1 0) 2)) (by simp only [if_pos c_4, if_true, if_false]) (0 : Int32) (by simp only [if_pos c_4, if_true, if_false]) (v.1 9 0) (by simp only [if_pos c_4, if_true, if_false]) H locs hP hD hS ls (lv_sub hl [0, 1, 2, 3] rfl)
    · refine lv_aload_n hx hb dX3_countGuess_38 rfl (lv_at hl 0 rfl) ?_
      refine lv_dup hx hb dX3_countGuess_39 rfl ?_
      refine va_get (D := D) (ci := 2) (v := .int (v.1 6 0)) (C := RX3) (T := TX3) (N := 11) hx hb hts inX3_countGuess_X3 hown hK hP 0 rfl rfl 7 (by decide) (hts _ (List.mem_of_getElem? (i := 4) rfl)) (fun _ h9 => h9) rfl dX3_countGuess_40 ?_
      refine lv_iconst (v := 1) hx hb dX3_countGuess_43 (by decide) ?_
      refine lv_iadd hx hb dX3_countGuess_44 ?_
      refine va_put (D := D) (ci := 2) (v := .int ((v.1 6 0) + (1 : Int32))) (ty := .int) (C := RX3) (T := TX3) (N := 11) hx hb hts inX3_countGuess_X3 tyX3 tyX3_ok nmX3 hown hK hP hD hS 0 rfl rfl 7 (by decide) (hts _ (List.mem_of_getElem? (i := 4) rfl)) (fun _ h9 => h9) rfl (by decide +kernel) rfl rfl (Nat.le_of_ble_eq_true rfl) dX3_countGuess_45 (fun H locs hP hD hS => ?_)
      have hP : va_P D vwCl (cS cy a ((mkO (v.1 0) (v.1 1) (upd (v.1 2) pl.toNatClampNeg (((v.1 2) pl.toNatClampNeg) + (1 : Int32))) (if tk = 0 then (v.1 3) else (upd (v.1 3) pl.toNatClampNeg (((v.1 3) pl.toNatClampNeg) + (1 : Int32)))) (v.1 4) ((v.1 5 0) + (1 : Int32)) ((v.1 6 0) + (1 : Int32)) (v.1 7 0) (v.1 8 0) (v.1 9 0)), v.2.1, v.2.2)) H := hP
      have hD : va_D A (cS cy a ((mkO (v.1 0) (v.1 1) (upd (v.1 2) pl.toNatClampNeg (((v.1 2) pl.toNatClampNeg) + (1 : Int32))) (if tk = 0 then (v.1 3) else (upd (v.1 3) pl.toNatClampNeg (((v.1 3) pl.toNatClampNeg) + (1 : Int32)))) (v.1 4) ((v.1 5 0) + (1 : Int32)) ((v.1 6 0) + (1 : Int32)) (v.1 7 0) (v.1 8 0) (v.1 9 0)), v.2.1, v.2.2)) := hD
      refine lv_aload_n hx hb dX3_countGuess_48 rfl (lv_at hl 0 rfl) ?_
      refine va_get (D := D) (ci := 2) (v := .ref ((a 0) 6)) (C := RX3) (T := TX3) (N := 11) hx hb hts inX3_countGuess_X3 hown hK hP 0 rfl rfl 5 (by decide) (hts _ (List.mem_of_getElem? (i := 5) rfl)) (fun _ h9 => h9) rfl dX3_countGuess_49 ?_
      refine lv_iload_n hx hb dX3_countGuess_52 rfl (lv_at hl 1 rfl) ?_
      refine lv_dup2_11 hx hb dX3_countGuess_53 rfl rfl ?_
      refine x_iald (f := (v.1 4)) (j := pl.toNatClampNeg) hx hb hK hP 6 0 rfl rfl rfl hpl dX3_countGuess_54 ?_
      refine lv_iconst (v := 1) hx hb dX3_countGuess_55 (by decide) ?_
      refine lv_iadd hx hb dX3_countGuess_56 ?_
      refine x_iast (j := pl.toNatClampNeg) hx hb hK hP hD hS 6 0 rfl rfl rfl hpl dX3_countGuess_57 (fun H locs hP hD hS => ?_)
      have hP : va_P D vwCl (cS cy a ((mkO (v.1 0) (v.1 1) (upd (v.1 2) pl.toNatClampNeg (((v.1 2) pl.toNatClampNeg) + (1 : Int32))) (if tk = 0 then (v.1 3) else (upd (v.1 3) pl.toNatClampNeg (((v.1 3) pl.toNatClampNeg) + (1 : Int32)))) (upd (v.1 4) pl.toNatClampNeg (((v.1 4) pl.toNatClampNeg) + (1 : Int32))) ((v.1 5 0) + (1 : Int32)) ((v.1 6 0) + (1 : Int32)) (v.1 7 0) (v.1 8 0) (v.1 9 0)), v.2.1, v.2.2)) H := hP
      have hD : va_D A (cS cy a ((mkO (v.1 0) (v.1 1) (upd (v.1 2) pl.toNatClampNeg (((v.1 2) pl.toNatClampNeg) + (1 : Int32))) (if tk = 0 then (v.1 3) else (upd (v.1 3) pl.toNatClampNeg (((v.1 3) pl.toNatClampNeg) + (1 : Int32)))) (upd (v.1 4) pl.toNatClampNeg (((v.1 4) pl.toNatClampNeg) + (1 : Int32))) ((v.1 5 0) + (1 : Int32)) ((v.1 6 0) + (1 : Int32)) (v.1 7 0) (v.1 8 0) (v.1 9 0)), v.2.1, v.2.2)) := hD
      refine lv_aload_n hx hb dX3_countGuess_58 rfl (lv_at hl 0 rfl) ?_
      refine lv_dup hx hb dX3_countGuess_59 rfl ?_
      refine va_get (D := D) (ci := 2) (v := .int (v.1 7 0)) (C := RX3) (T := TX3) (N := 11) hx hb hts inX3_countGuess_X3 hown hK hP 0 rfl rfl 8 (by decide) (hts _ (List.mem_of_getElem? (i := 6) rfl)) (fun _ h9 => h9) rfl dX3_countGuess_60 ?_
      refine lv_iconst (v := 1) hx hb dX3_countGuess_63 (by decide) ?_
      refine lv_iadd hx hb dX3_countGuess_64 ?_
      refine va_put (D := D) (ci := 2) (v := .int ((v.1 7 0) + (1 : Int32))) (ty := .int) (C := RX3) (T := TX3) (N := 11) hx hb hts inX3_countGuess_X3 tyX3 tyX3_ok nmX3 hown hK hP hD hS 0 rfl rfl 8 (by decide) (hts _ (List.mem_of_getElem? (i := 6) rfl)) (fun _ h9 => h9) rfl (by decide +kernel) rfl rfl (Nat.le_of_ble_eq_true rfl) dX3_countGuess_65 (fun H locs hP hD hS => ?_)
      have hP : va_P D vwCl (cS cy a ((mkO (v.1 0) (v.1 1) (upd (v.1 2) pl.toNatClampNeg (((v.1 2) pl.toNatClampNeg) + (1 : Int32))) (if tk = 0 then (v.1 3) else (upd (v.1 3) pl.toNatClampNeg (((v.1 3) pl.toNatClampNeg) + (1 : Int32)))) (upd (v.1 4) pl.toNatClampNeg (((v.1 4) pl.toNatClampNeg) + (1 : Int32))) ((v.1 5 0) + (1 : Int32)) ((v.1 6 0) + (1 : Int32)) ((v.1 7 0) + (1 : Int32)) (v.1 8 0) (v.1 9 0)), v.2.1, v.2.2)) H := hP
      have hD : va_D A (cS cy a ((mkO (v.1 0) (v.1 1) (upd (v.1 2) pl.toNatClampNeg (((v.1 2) pl.toNatClampNeg) + (1 : Int32))) (if tk = 0 then (v.1 3) else (upd (v.1 3) pl.toNatClampNeg (((v.1 3) pl.toNatClampNeg) + (1 : Int32)))) (upd (v.1 4) pl.toNatClampNeg (((v.1 4) pl.toNatClampNeg) + (1 : Int32))) ((v.1 5 0) + (1 : Int32)) ((v.1 6 0) + (1 : Int32)) ((v.1 7 0) + (1 : Int32)) (v.1 8 0) (v.1 9 0)), v.2.1, v.2.2)) := hD
      refine lv_aload_n hx hb dX3_countGuess_68 rfl (lv_at hl 0 rfl) ?_
      refine lv_dup hx hb dX3_countGuess_69 rfl ?_
      refine va_get (D := D) (ci := 2) (v := .int (v.1 8 0)) (C := RX3) (T := TX3) (N := 11) hx hb hts inX3_countGuess_X3 hown hK hP 0 rfl rfl 9 (by decide) (hts _ (List.mem_of_getElem? (i := 7) rfl)) (fun _ h9 => h9) rfl dX3_countGuess_70 ?_
      refine lv_iconst (v := 1) hx hb dX3_countGuess_73 (by decide) ?_
      refine lv_iadd hx hb dX3_countGuess_74 ?_
      refine va_put (D := D) (ci := 2) (v := .int ((v.1 8 0) + (1 : Int32))) (ty := .int) (C := RX3) (T := TX3) (N := 11) hx hb hts inX3_countGuess_X3 tyX3 tyX3_ok nmX3 hown hK hP hD hS 0 rfl rfl 9 (by decide) (hts _ (List.mem_of_getElem? (i := 7) rfl)) (fun _ h9 => h9) rfl (by decide +kernel) rfl rfl (Nat.le_of_ble_eq_true rfl) dX3_countGuess_75 (fun H locs hP hD hS => ?_)
      have hP : va_P D vwCl (cS cy a ((mkO (v.1 0) (v.1 1) (upd (v.1 2) pl.toNatClampNeg (((v.1 2) pl.toNatClampNeg) + (1 : Int32))) (if tk = 0 then (v.1 3) else (upd (v.1 3) pl.toNatClampNeg (((v.1 3) pl.toNatClampNeg) + (1 : Int32)))) (upd (v.1 4) pl.toNatClampNeg (((v.1 4) pl.toNatClampNeg) + (1 : Int32))) ((v.1 5 0) + (1 : Int32)) ((v.1 6 0) + (1 : Int32)) ((v.1 7 0) + (1 : Int32)) ((v.1 8 0) + (1 : Int32)) (v.1 9 0)), v.2.1, v.2.2)) H := hP
      have hD : va_D A (cS cy a ((mkO (v.1 0) (v.1 1) (upd (v.1 2) pl.toNatClampNeg (((v.1 2) pl.toNatClampNeg) + (1 : Int32))) (if tk = 0 then (v.1 3) else (upd (v.1 3) pl.toNatClampNeg (((v.1 3) pl.toNatClampNeg) + (1 : Int32)))) (upd (v.1 4) pl.toNatClampNeg (((v.1 4) pl.toNatClampNeg) + (1 : Int32))) ((v.1 5 0) + (1 : Int32)) ((v.1 6 0) + (1 : Int32)) ((v.1 7 0) + (1 : Int32)) ((v.1 8 0) + (1 : Int32)) (v.1 9 0)), v.2.1, v.2.2)) := hD
      refine lv_aload_n hx hb dX3_countGuess_78 rfl (lv_at hl 0 rfl) ?_
      refine lv_aload_n hx hb dX3_countGuess_79 rfl (lv_at hl 0 rfl) ?_
      refine va_get (D := D) (ci := 2) (v := .int (v.1 9 0)) (C := RX3) (T := TX3) (N := 11) hx hb hts inX3_countGuess_X3 hown hK hP 0 rfl rfl 10 (by decide) (hts _ (List.mem_of_getElem? (i := 8) rfl)) (fun _ h9 => h9) rfl dX3_countGuess_80 ?_
      refine lv_aload_n hx hb dX3_countGuess_83 rfl (lv_at hl 0 rfl) ?_
      refine va_get (D := D) (ci := 2) (v := .int ((v.1 8 0) + (1 : Int32))) (C := RX3) (T := TX3) (N := 11) hx hb hts inX3_countGuess_X3 hown hK hP 0 rfl rfl 9 (by decide) (hts _ (List.mem_of_getElem? (i := 7) rfl)) (fun _ h9 => h9) rfl dX3_countGuess_84 ?_
      refine va_mmax hx hb (hml.trans hl.1.symm) hown (hts _ (List.mem_of_getElem? (i := 9) rfl)) (hts _ (List.mem_of_getElem? (i := 10) rfl)) (hts _ (List.mem_of_getElem? (i := 11) rfl)) (hts _ (List.mem_of_getElem? (i := 12) rfl)) (Nat.le_of_ble_eq_true rfl) (Nat.le_of_ble_eq_true rfl) (Nat.le_of_ble_eq_true rfl) (Nat.le_of_ble_eq_true rfl) dX3_countGuess_87 ?_
      refine va_put (D := D) (ci := 2) (v := .int (if (v.1 9 0) < ((v.1 8 0) + (1 : Int32)) then ((v.1 8 0) + (1 : Int32)) else (v.1 9 0))) (ty := .int) (C := RX3) (T := TX3) (N := 11) hx hb hts inX3_countGuess_X3 tyX3 tyX3_ok nmX3 hown hK hP hD hS 0 rfl rfl 10 (by decide) (hts _ (List.mem_of_getElem? (i := 8) rfl)) (fun _ h9 => h9) rfl (by decide +kernel) rfl rfl (Nat.le_of_ble_eq_true rfl) dX3_countGuess_90 (fun H locs hP hD hS => ?_)
      have hP : va_P D vwCl (cS cy a ((mkO (v.1 0) (v.1 1) (upd (v.1 2) pl.toNatClampNeg (((v.1 2) pl.toNatClampNeg) + (1 : Int32))) (if tk = 0 then (v.1 3) else (upd (v.1 3) pl.toNatClampNeg (((v.1 3) pl.toNatClampNeg) + (1 : Int32)))) (upd (v.1 4) pl.toNatClampNeg (((v.1 4) pl.toNatClampNeg) + (1 : Int32))) ((v.1 5 0) + (1 : Int32)) ((v.1 6 0) + (1 : Int32)) ((v.1 7 0) + (1 : Int32)) ((v.1 8 0) + (1 : Int32)) (if (v.1 9 0) < ((v.1 8 0) + (1 : Int32)) then ((v.1 8 0) + (1 : Int32)) else (v.1 9 0))), v.2.1, v.2.2)) H := hP
      have hD : va_D A (cS cy a ((mkO (v.1 0) (v.1 1) (upd (v.1 2) pl.toNatClampNeg (((v.1 2) pl.toNatClampNeg) + (1 : Int32))) (if tk = 0 then (v.1 3) else (upd (v.1 3) pl.toNatClampNeg (((v.1 3) pl.toNatClampNeg) + (1 : Int32)))) (upd (v.1 4) pl.toNatClampNeg (((v.1 4) pl.toNatClampNeg) + (1 : Int32))) ((v.1 5 0) + (1 : Int32)) ((v.1 6 0) + (1 : Int32)) ((v.1 7 0) + (1 : Int32)) ((v.1 8 0) + (1 : Int32)) (if (v.1 9 0) < ((v.1 8 0) + (1 : Int32)) then ((v.1 8 0) + (1 : Int32)) else (v.1 9 0))), v.2.1, v.2.2)) := hD
      refine lv_goto (tgt := 116) hx hb dX3_countGuess_93 (by decide) ?_
      exact J116_9 (upd (v.1 4) pl.toNatClampNeg (((v.1 4) pl.toNatClampNeg) + (1 : Int32))) (by simp only [if_neg c_4, if_true, if_false]) ((v.1 6 0) + (1 : Int32)) (by simp only [if_neg c_4, if_true, if_false]) ((v.1 7 0) + (1 : Int32)) (by simp only [if_neg c_4, if_true, if_false]) ((v.1 8 0) + (1 : Int32)) (by simp only [if_neg c_4, if_true, if_false]) (if (v.1 9 0) < ((v.1 8 0) + (1 : Int32)) then ((v.1 8 0) + (1 : Int32)) else (v.1 9 0)) (by simp only [if_neg c_4, if_true, if_false]) H locs hP hD hS ls (lv_sub hl [0, 1, 2, 3] rfl)
  refine lv_if_eq (tgt := 34) hx hb dX3_countGuess_21 (by decide) (fun c_1 => ?_) (fun c_1 => ?_)
  · exact J34_2 (v.1 3) (by simp only [if_pos c_1, if_true, if_false]) H locs hP hD hS ls (lv_sub hl [0, 1, 2, 3] rfl)
  · refine lv_aload_n hx hb dX3_countGuess_24 rfl (lv_at hl 0 rfl) ?_
    refine va_get (D := D) (ci := 2) (v := .ref ((a 0) 5)) (C := RX3) (T := TX3) (N := 11) hx hb hts inX3_countGuess_X3 hown hK hP 0 rfl rfl 4 (by decide) (hts _ (List.mem_of_getElem? (i := 3) rfl)) (fun _ h9 => h9) rfl dX3_countGuess_25 ?_
    refine lv_iload_n hx hb dX3_countGuess_28 rfl (lv_at hl 1 rfl) ?_
    refine lv_dup2_11 hx hb dX3_countGuess_29 rfl rfl ?_
    refine x_iald (f := (v.1 3)) (j := pl.toNatClampNeg) hx hb hK hP 5 0 rfl rfl rfl hpl dX3_countGuess_30 ?_
    refine lv_iconst (v := 1) hx hb dX3_countGuess_31 (by decide) ?_
    refine lv_iadd hx hb dX3_countGuess_32 ?_
    refine x_iast (j := pl.toNatClampNeg) hx hb hK hP hD hS 5 0 rfl rfl rfl hpl dX3_countGuess_33 (fun H locs hP hD hS => ?_)
    have hP : va_P D vwCl (cS cy a ((mkO (v.1 0) (v.1 1) (upd (v.1 2) pl.toNatClampNeg (((v.1 2) pl.toNatClampNeg) + (1 : Int32))) (upd (v.1 3) pl.toNatClampNeg (((v.1 3) pl.toNatClampNeg) + (1 : Int32))) (v.1 4) ((v.1 5 0) + (1 : Int32)) (v.1 6 0) (v.1 7 0) (v.1 8 0) (v.1 9 0)), v.2.1, v.2.2)) H := hP
    have hD : va_D A (cS cy a ((mkO (v.1 0) (v.1 1) (upd (v.1 2) pl.toNatClampNeg (((v.1 2) pl.toNatClampNeg) + (1 : Int32))) (upd (v.1 3) pl.toNatClampNeg (((v.1 3) pl.toNatClampNeg) + (1 : Int32))) (v.1 4) ((v.1 5 0) + (1 : Int32)) (v.1 6 0) (v.1 7 0) (v.1 8 0) (v.1 9 0)), v.2.1, v.2.2)) := hD
    exact J34_2 (upd (v.1 3) pl.toNatClampNeg (((v.1 3) pl.toNatClampNeg) + (1 : Int32))) (by simp only [if_neg c_1, if_true, if_false]) H locs hP hD hS ls (lv_sub hl [0, 1, 2, 3] rfl)

