/-! ===== History ===== -/
abbrev HV : Type := Nat × Nat × (Nat → SV)
def cQ (cy : Nat → ClassId) (q : Nat → Nat) (ar : Nat → Nat → Nat → Nat) (o c : Int32) : va_W := [(q 0, .inr (1, [.ref (q 1), .int o, .int c])), (q 1, .inl (cy 3, 14, .inr (.inr (.inr (.inr (fun i => some (ar i 0 0)))))))]
def bR (cy : Nat → ClassId) (ar : Nat → Nat → Nat → Nat) (f : Nat → SV) : List va_W := (List.range 14).map (fun i => cS cy (ar i) (f i))
def cR (cy : Nat → ClassId) (ar : Nat → Nat → Nat → Nat) (f : Nat → SV) : va_W := (bR cy ar f).flatten
def cH (cy : Nat → ClassId) (q : Nat → Nat) (ar : Nat → Nat → Nat → Nat) (h : HV) : va_W := cQ cy q ar (nI h.1) (nI h.2.1) ++ cR cy ar h.2.2
/-- a state is remembered -/
def hrem (h : HV) (v : SV) : HV := if h.2.1 = 14 then ((h.1 + 1) % 14, 14, va_up h.2.2 (((h.1 + 1) % 14 + 13) % 14) v) else (h.1, h.2.1 + 1, va_up h.2.2 ((h.1 + h.2.1) % 14) v)
def htop (h : HV) : SV := h.2.2 ((h.1 + (h.2.1 - 1)) % 14)
def hpop (h : HV) : HV := (h.1, h.2.1 - 1, h.2.2)
def hok (h : HV) : Prop := h.1 < 14 ∧ h.2.1 ≤ 14
theorem bR_get (cy : Nat → ClassId) (ar : Nat → Nat → Nat → Nat) (f : Nat → SV) {i : Nat} (hi : i < 14) : (bR cy ar f)[i]? = some (cS cy (ar i) (f i)) := by
  unfold bR
  rw [List.getElem?_map, List.getElem?_range hi]
  rfl
theorem bR_set (cy : Nat → ClassId) (ar : Nat → Nat → Nat → Nat) (f : Nat → SV) {i : Nat} (hi : i < 14) (u : SV) : (bR cy ar f).set i (cS cy (ar i) u) = bR cy ar (va_up f i u) := by
  apply List.ext_getElem?
  intro j
  have hl : (bR cy ar f).length = 14 := by unfold bR; simp
  rcases Nat.lt_or_ge j 14 with hj | hj
  · rw [bR_get cy ar (va_up f i u) hj]
    by_cases hij : i = j
    · subst hij
      rw [List.getElem?_set_self (by omega), va_up_self]
    · rw [List.getElem?_set_ne hij, bR_get cy ar f hj, va_up_ne f u (Ne.symm hij)]
  · rw [List.getElem?_eq_none (by rw [List.length_set]; omega), List.getElem?_eq_none (by unfold bR; simp; omega)]
theorem pm4 {α : Type} {R S R' : List α} (x z : List α) (h : R.Perm (S ++ R')) : ((x ++ R) ++ z).Perm ((S ++ z) ++ (x ++ R')) := by
  have h1 : (x ++ R).Perm (S ++ (x ++ R')) := by
    refine (h.append_left x).trans ?_
    rw [← List.append_assoc, ← List.append_assoc]
    exact List.perm_append_comm.append_right R'
  refine (h1.append_right z).trans ?_
  rw [List.append_assoc S (x ++ R') z, List.append_assoc S z (x ++ R')]
  exact List.perm_append_comm.append_left S
/-- the place i of the ring and a state beside it -/
theorem pmR (cy : Nat → ClassId) (ar : Nat → Nat → Nat → Nat) (f : Nat → SV) {i : Nat} (hi : i < 14) (u : SV) (x x' z z' : va_W) : ((x ++ cR cy ar f) ++ z).Perm ((cS cy (ar i) (f i) ++ z) ++ (x ++ ((bR cy ar f).eraseIdx i).flatten)) ∧ ((cS cy (ar i) u ++ z') ++ (x' ++ ((bR cy ar f).eraseIdx i).flatten)).Perm ((x' ++ cR cy ar (va_up f i u)) ++ z') := by
  obtain ⟨h1, h2⟩ := pmB (bR cy ar f) i _ (cS cy (ar i) u) (bR_get cy ar f hi)
  rw [bR_set cy ar f hi u] at h2
  exact ⟨pm4 x z h1, (pm4 x' z' h2.symm).symm⟩
theorem pmR2 (cy : Nat → ClassId) (ar : Nat → Nat → Nat → Nat) (f : Nat → SV) {i : Nat} (hi : i < 14) (x z z' : va_W) : ((x ++ cR cy ar f) ++ z).Perm ((z ++ cS cy (ar i) (f i)) ++ (x ++ ((bR cy ar f).eraseIdx i).flatten)) ∧ ((z' ++ cS cy (ar i) (f i)) ++ (x ++ ((bR cy ar f).eraseIdx i).flatten)).Perm ((x ++ cR cy ar f) ++ z') := by
  obtain ⟨h1, -⟩ := pmB (bR cy ar f) i _ (cS cy (ar i) (f i)) (bR_get cy ar f hi)
  exact ⟨(pm4 x z h1).trans (List.perm_append_comm.append_right _), (List.perm_append_comm.append_right _).trans (pm4 x z' h1).symm⟩

abbrev rX1_remember : Room := { frames := 3, cells := 0, slots := 0, locals := 103 }
theorem inX1_remember_X1 : ∀ w ∈ u_ws RX1 TX1 3, w ∈ wsX1_remember := by decide +kernel
set_option maxHeartbeats 4000000 in
set_option maxRecDepth 100000 in
theorem c_X1_remember (l : Launch) (D : va_G) (cy : Nat → ClassId) (q : Nat → Nat) (ar : Nat → Nat → Nat → Nat) (a : Nat → Nat → Nat) (h : HV) (v : SV) (sz : Nat) (ho : hok h) : CN l yX1_remember wsX1_remember rX1_remember D cy [.ref (q 0), .ref (a 0 0)] (cH cy q ar h ++ cS cy a v) sz (cH cy q ar (hrem h v) ++ cS cy a v) 0 0 := by
  refine st_n (cc := cX1_remember) (maxL := 2) (by decide) rfl (Nat.le_of_ble_eq_true rfl) ?_
  intro pp e s m below meth c A Q ls hx hb hts hown hml hlocks hsz hP hK hD hE hA hl hret
  subst hsz
  have hown : s.vm.findClass RX1 = some m.cls := hown
  have hl : lv_has ls 2 [(0, .ref (q 0)), (1, .ref (a 0 0))] := hl
  obtain ⟨H, hH⟩ : ∃ H, H = s.heap := ⟨_, rfl⟩
  rw [← hH] at hP ⊢
  have hS : va_S A s.heap H [] := by rw [hH]; exact va_S.rf
  obtain ⟨locs, hlo⟩ : ∃ locs : List Loc, locs = [] := ⟨_, rfl⟩
  rw [← hlo] at hS ⊢
  obtain ⟨ho1, ho2⟩ := ho
  have hP : va_P D vwCl ((cQ cy q ar (nI h.1) (nI h.2.1) ++ cR cy ar h.2.2) ++ cS cy a v) H := hP
  have hD : va_D A ((cQ cy q ar (nI h.1) (nI h.2.1) ++ cR cy ar h.2.2) ++ cS cy a v) := hD
  by_cases hc : h.2.1 = 14
  · have hcc : nI h.2.1 = 14 := by rw [hc]; rfl
    refine lv_aload_n hx hb dX1_remember_0 rfl (lv_at hl 0 rfl) ?_
    refine va_get (D := D) (ci := 1) (v := .int (nI h.2.1)) (C := RX1) (T := TX1) (N := 3) hx hb hts inX1_remember_X1 hown hK hP 0 rfl rfl 2 (by decide) (hts _ (List.mem_of_getElem? (i := 1) rfl)) (fun _ h9 => h9) rfl dX1_remember_1 ?_
    refine lv_bipush (v := 14) hx hb dX1_remember_4 (by decide) ?_
    refine lv_icmp_ne (tgt := 32) hx hb dX1_remember_6 (by decide) (fun c_1 => absurd hcc c_1) (fun c_1 => ?_)
    refine lv_aload_n hx hb dX1_remember_9 rfl (lv_at hl 0 rfl) ?_
    refine lv_aload_n hx hb dX1_remember_10 rfl (lv_at hl 0 rfl) ?_
    refine va_get (D := D) (ci := 1) (v := .int (nI h.1)) (C := RX1) (T := TX1) (N := 3) hx hb hts inX1_remember_X1 hown hK hP 0 rfl rfl 1 (by decide) (hts _ (List.mem_of_getElem? (i := 2) rfl)) (fun _ h9 => h9) rfl dX1_remember_11 ?_
    refine lv_iconst (v := 1) hx hb dX1_remember_14 (by decide) ?_
    refine lv_iadd hx hb dX1_remember_15 ?_
    refine lv_topi (fun yy eyy => ?_)
    have eyy : yy = (nI (h.1 + 1)) := by rw [eyy]; exact nI_1 _
    subst eyy
    refine lv_bipush (v := 14) hx hb dX1_remember_16 (by decide) ?_
    refine lv_irem hx hb dX1_remember_18 (by decide) ?_
    refine lv_topi (fun yy eyy => ?_)
    have eyy : yy = (nI ((h.1 + 1) % 14)) := by rw [eyy]; exact pk_rem (a := h.1 + 1) (d := 14) (by omega) (by decide) (by decide)
    subst eyy
    refine va_put (D := D) (ci := 1) (v := .int (nI ((h.1 + 1) % 14))) (ty := .int) (C := RX1) (T := TX1) (N := 3) hx hb hts inX1_remember_X1 tyX1 tyX1_ok nmX1 hown hK hP hD hS 0 rfl rfl 1 (by decide) (hts _ (List.mem_of_getElem? (i := 2) rfl)) (fun _ h9 => h9) rfl (by decide +kernel) rfl rfl (Nat.le_of_ble_eq_true rfl) dX1_remember_19 (fun H locs hP hD hS => ?_)
    have hP : va_P D vwCl ((cQ cy q ar (nI ((h.1 + 1) % 14)) (nI h.2.1) ++ cR cy ar h.2.2) ++ cS cy a v) H := hP
    have hD : va_D A ((cQ cy q ar (nI ((h.1 + 1) % 14)) (nI h.2.1) ++ cR cy ar h.2.2) ++ cS cy a v) := hD
    refine lv_aload_n hx hb dX1_remember_22 rfl (lv_at hl 0 rfl) ?_
    refine lv_dup hx hb dX1_remember_23 rfl ?_
    refine va_get (D := D) (ci := 1) (v := .int (nI h.2.1)) (C := RX1) (T := TX1) (N := 3) hx hb hts inX1_remember_X1 hown hK hP 0 rfl rfl 2 (by decide) (hts _ (List.mem_of_getElem? (i := 1) rfl)) (fun _ h9 => h9) rfl dX1_remember_24 ?_
    refine lv_iconst (v := 1) hx hb dX1_remember_27 (by decide) ?_
    refine lv_isub hx hb dX1_remember_28 ?_
    refine lv_topi (fun yy eyy => ?_)
    have eyy : yy = (nI 13) := by rw [eyy]; rw [hc]; rfl
    subst eyy
    refine va_put (D := D) (ci := 1) (v := .int (nI 13)) (ty := .int) (C := RX1) (T := TX1) (N := 3) hx hb hts inX1_remember_X1 tyX1 tyX1_ok nmX1 hown hK hP hD hS 0 rfl rfl 2 (by decide) (hts _ (List.mem_of_getElem? (i := 1) rfl)) (fun _ h9 => h9) rfl (by decide +kernel) rfl rfl (Nat.le_of_ble_eq_true rfl) dX1_remember_29 (fun H locs hP hD hS => ?_)
    have hP : va_P D vwCl ((cQ cy q ar (nI ((h.1 + 1) % 14)) (nI 13) ++ cR cy ar h.2.2) ++ cS cy a v) H := hP
    have hD : va_D A ((cQ cy q ar (nI ((h.1 + 1) % 14)) (nI 13) ++ cR cy ar h.2.2) ++ cS cy a v) := hD
    refine lv_aload_n hx hb dX1_remember_32 rfl (lv_at hl 0 rfl) ?_
    refine va_get (D := D) (ci := 1) (v := .ref (q 1)) (C := RX1) (T := TX1) (N := 3) hx hb hts inX1_remember_X1 hown hK hP 0 rfl rfl 0 (by decide) (hts _ (List.mem_of_getElem? (i := 3) rfl)) (fun _ h9 => h9) rfl dX1_remember_33 ?_
    refine lv_aload_n hx hb dX1_remember_36 rfl (lv_at hl 0 rfl) ?_
    refine va_get (D := D) (ci := 1) (v := .int (nI ((h.1 + 1) % 14))) (C := RX1) (T := TX1) (N := 3) hx hb hts inX1_remember_X1 hown hK hP 0 rfl rfl 1 (by decide) (hts _ (List.mem_of_getElem? (i := 2) rfl)) (fun _ h9 => h9) rfl dX1_remember_37 ?_
    refine lv_aload_n hx hb dX1_remember_40 rfl (lv_at hl 0 rfl) ?_
    refine va_get (D := D) (ci := 1) (v := .int (nI 13)) (C := RX1) (T := TX1) (N := 3) hx hb hts inX1_remember_X1 hown hK hP 0 rfl rfl 2 (by decide) (hts _ (List.mem_of_getElem? (i := 1) rfl)) (fun _ h9 => h9) rfl dX1_remember_41 ?_
    refine lv_iadd hx hb dX1_remember_44 ?_
    refine lv_topi (fun yy eyy => ?_)
    have eyy : yy = (nI (((h.1 + 1) % 14) + 13)) := by rw [eyy]; exact nI_add _ _
    subst eyy
    refine lv_bipush (v := 14) hx hb dX1_remember_45 (by decide) ?_
    refine lv_irem hx hb dX1_remember_47 (by decide) ?_
    refine lv_topi (fun yy eyy => ?_)
    have eyy : yy = (nI ((((h.1 + 1) % 14) + 13) % 14)) := by rw [eyy]; exact pk_rem (a := ((h.1 + 1) % 14) + 13) (d := 14) (by omega) (by decide) (by decide)
    subst eyy
    refine x_aldq (v := .ref (ar ((((h.1 + 1) % 14) + 13) % 14) 0 0)) hx hb hK hP 1 3 rfl rfl (vp_in_nI (by omega) (by decide)) (by rw [nI_clamp (by omega)]; rfl) dX1_remember_48 ?_
    refine lv_aload_n hx hb dX1_remember_49 rfl (lv_at hl 1 rfl) ?_
    refine cl_n (va_runV (As := [.ref (a 0 0)]) (rest := []) ⟨hx, hb, hml, hown, hts⟩ (c_X3_copyFrom l D cy (ar ((((h.1 + 1) % 14) + 13) % 14)) a (h.2.2 ((((h.1 + 1) % 14) + 13) % 14)) v H.size) (cwV 1 hts gX1_remember_X3_copyFrom rfl rfl rfl (by decide +kernel) ⟨Nat.le_of_ble_eq_true rfl, Nat.le_of_ble_eq_true rfl⟩) ⟨blU, va_recv hK (vP_perm hP (pmR cy ar h.2.2 (i := (((h.1 + 1) % 14) + 13) % 14) (by omega) v (cQ cy q ar (nI ((h.1 + 1) % 14)) (nI 13)) (cQ cy q ar (nI ((h.1 + 1) % 14)) (nI 13)) (cS cy a v) (cS cy a v)).1) (ci := 2) (q0 := 0) rfl rfl, preU hP hD (pmR cy ar h.2.2 (i := (((h.1 + 1) % 14) + 13) % 14) (by omega) v (cQ cy q ar (nI ((h.1 + 1) % 14)) (nI 13)) (cQ cy q ar (nI ((h.1 + 1) % 14)) (nI 13)) (cS cy a v) (cS cy a v)).1 hK hE hS hA⟩ rfl rfl hl.1 rfl (lv_room (Nat.le_of_ble_eq_true rfl)) dX1_remember_50 ⟨Nat.le_of_ble_eq_true rfl, Nat.le_of_ble_eq_true rfl⟩) hP hD (pmR cy ar h.2.2 (i := (((h.1 + 1) % 14) + 13) % 14) (by omega) v (cQ cy q ar (nI ((h.1 + 1) % 14)) (nI 13)) (cQ cy q ar (nI ((h.1 + 1) % 14)) (nI 13)) (cS cy a v) (cS cy a v)).1 hS hA (fun H locs hP hD hS => ?_)
    have hP : va_P D vwCl ((cQ cy q ar (nI ((h.1 + 1) % 14)) (nI 13) ++ cR cy ar (va_up h.2.2 ((((h.1 + 1) % 14) + 13) % 14) v)) ++ cS cy a v) H := vP_perm hP (pmR cy ar h.2.2 (i := (((h.1 + 1) % 14) + 13) % 14) (by omega) v (cQ cy q ar (nI ((h.1 + 1) % 14)) (nI 13)) (cQ cy q ar (nI ((h.1 + 1) % 14)) (nI 13)) (cS cy a v) (cS cy a v)).2
    have hD : va_D A ((cQ cy q ar (nI ((h.1 + 1) % 14)) (nI 13) ++ cR cy ar (va_up h.2.2 ((((h.1 + 1) % 14) + 13) % 14) v)) ++ cS cy a v) := vD_perm hD (pmR cy ar h.2.2 (i := (((h.1 + 1) % 14) + 13) % 14) (by omega) v (cQ cy q ar (nI ((h.1 + 1) % 14)) (nI 13)) (cQ cy q ar (nI ((h.1 + 1) % 14)) (nI 13)) (cS cy a v) (cS cy a v)).2
    refine lv_aload_n hx hb dX1_remember_53 rfl (lv_at hl 0 rfl) ?_
    refine lv_dup hx hb dX1_remember_54 rfl ?_
    refine va_get (D := D) (ci := 1) (v := .int (nI 13)) (C := RX1) (T := TX1) (N := 3) hx hb hts inX1_remember_X1 hown hK hP 0 rfl rfl 2 (by decide) (hts _ (List.mem_of_getElem? (i := 1) rfl)) (fun _ h9 => h9) rfl dX1_remember_55 ?_
    refine lv_iconst (v := 1) hx hb dX1_remember_58 (by decide) ?_
    refine lv_iadd hx hb dX1_remember_59 ?_
    refine lv_topi (fun yy eyy => ?_)
    have eyy : yy = (nI 14) := by rw [eyy]; exact nI_1 13
    subst eyy
    refine va_put (D := D) (ci := 1) (v := .int (nI 14)) (ty := .int) (C := RX1) (T := TX1) (N := 3) hx hb hts inX1_remember_X1 tyX1 tyX1_ok nmX1 hown hK hP hD hS 0 rfl rfl 2 (by decide) (hts _ (List.mem_of_getElem? (i := 1) rfl)) (fun _ h9 => h9) rfl (by decide +kernel) rfl rfl (Nat.le_of_ble_eq_true rfl) dX1_remember_60 (fun H locs hP hD hS => ?_)
    have hP : va_P D vwCl ((cQ cy q ar (nI ((h.1 + 1) % 14)) (nI 14) ++ cR cy ar (va_up h.2.2 ((((h.1 + 1) % 14) + 13) % 14) v)) ++ cS cy a v) H := hP
    have hD : va_D A ((cQ cy q ar (nI ((h.1 + 1) % 14)) (nI 14) ++ cR cy ar (va_up h.2.2 ((((h.1 + 1) % 14) + 13) % 14) v)) ++ cS cy a v) := hD
    have hw9 : (cH cy q ar (hrem h v) ++ cS cy a v) = ((cQ cy q ar (nI ((h.1 + 1) % 14)) (nI 14) ++ cR cy ar (va_up h.2.2 ((((h.1 + 1) % 14) + 13) % 14) v)) ++ cS cy a v) := by unfold cH hrem; rw [if_pos hc]
    exact hret H locs _ ls (by rw [hw9]; exact hP) (by rw [hw9]; exact hD) hS dX1_remember_63
  · have hcc : ¬ nI h.2.1 = 14 := fun q9 => hc ((nI_eq (a := h.2.1) (b := 14) (by omega) (by decide)).mp q9)
    refine lv_aload_n hx hb dX1_remember_0 rfl (lv_at hl 0 rfl) ?_
    refine va_get (D := D) (ci := 1) (v := .int (nI h.2.1)) (C := RX1) (T := TX1) (N := 3) hx hb hts inX1_remember_X1 hown hK hP 0 rfl rfl 2 (by decide) (hts _ (List.mem_of_getElem? (i := 1) rfl)) (fun _ h9 => h9) rfl dX1_remember_1 ?_
    refine lv_bipush (v := 14) hx hb dX1_remember_4 (by decide) ?_
    refine lv_icmp_ne (tgt := 32) hx hb dX1_remember_6 (by decide) (fun c_1 => ?_) (fun c_1 => absurd c_1 hcc)
    refine lv_aload_n hx hb dX1_remember_32 rfl (lv_at hl 0 rfl) ?_
    refine va_get (D := D) (ci := 1) (v := .ref (q 1)) (C := RX1) (T := TX1) (N := 3) hx hb hts inX1_remember_X1 hown hK hP 0 rfl rfl 0 (by decide) (hts _ (List.mem_of_getElem? (i := 3) rfl)) (fun _ h9 => h9) rfl dX1_remember_33 ?_
    refine lv_aload_n hx hb dX1_remember_36 rfl (lv_at hl 0 rfl) ?_
    refine va_get (D := D) (ci := 1) (v := .int (nI h.1)) (C := RX1) (T := TX1) (N := 3) hx hb hts inX1_remember_X1 hown hK hP 0 rfl rfl 1 (by decide) (hts _ (List.mem_of_getElem? (i := 2) rfl)) (fun _ h9 => h9) rfl dX1_remember_37 ?_
    refine lv_aload_n hx hb dX1_remember_40 rfl (lv_at hl 0 rfl) ?_
    refine va_get (D := D) (ci := 1) (v := .int (nI h.2.1)) (C := RX1) (T := TX1) (N := 3) hx hb hts inX1_remember_X1 hown hK hP 0 rfl rfl 2 (by decide) (hts _ (List.mem_of_getElem? (i := 1) rfl)) (fun _ h9 => h9) rfl dX1_remember_41 ?_
    refine lv_iadd hx hb dX1_remember_44 ?_
    refine lv_topi (fun yy eyy => ?_)
    have eyy : yy = (nI (h.1 + h.2.1)) := by rw [eyy]; exact nI_add _ _
    subst eyy
    refine lv_bipush (v := 14) hx hb dX1_remember_45 (by decide) ?_
    refine lv_irem hx hb dX1_remember_47 (by decide) ?_
    refine lv_topi (fun yy eyy => ?_)
    have eyy : yy = (nI ((h.1 + h.2.1) % 14)) := by rw [eyy]; exact pk_rem (a := h.1 + h.2.1) (d := 14) (by omega) (by decide) (by decide)
    subst eyy
    refine x_aldq (v := .ref (ar ((h.1 + h.2.1) % 14) 0 0)) hx hb hK hP 1 3 rfl rfl (vp_in_nI (by omega) (by decide)) (by rw [nI_clamp (by omega)]; rfl) dX1_remember_48 ?_
    refine lv_aload_n hx hb dX1_remember_49 rfl (lv_at hl 1 rfl) ?_
    refine cl_n (va_runV (As := [.ref (a 0 0)]) (rest := []) ⟨hx, hb, hml, hown, hts⟩ (c_X3_copyFrom l D cy (ar ((h.1 + h.2.1) % 14)) a (h.2.2 ((h.1 + h.2.1) % 14)) v H.size) (cwV 1 hts gX1_remember_X3_copyFrom rfl rfl rfl (by decide +kernel) ⟨Nat.le_of_ble_eq_true rfl, Nat.le_of_ble_eq_true rfl⟩) ⟨blU, va_recv hK (vP_perm hP (pmR cy ar h.2.2 (i := (h.1 + h.2.1) % 14) (by omega) v (cQ cy q ar (nI h.1) (nI h.2.1)) (cQ cy q ar (nI h.1) (nI h.2.1)) (cS cy a v) (cS cy a v)).1) (ci := 2) (q0 := 0) rfl rfl, preU hP hD (pmR cy ar h.2.2 (i := (h.1 + h.2.1) % 14) (by omega) v (cQ cy q ar (nI h.1) (nI h.2.1)) (cQ cy q ar (nI h.1) (nI h.2.1)) (cS cy a v) (cS cy a v)).1 hK hE hS hA⟩ rfl rfl hl.1 rfl (lv_room (Nat.le_of_ble_eq_true rfl)) dX1_remember_50 ⟨Nat.le_of_ble_eq_true rfl, Nat.le_of_ble_eq_true rfl⟩) hP hD (pmR cy ar h.2.2 (i := (h.1 + h.2.1) % 14) (by omega) v (cQ cy q ar (nI h.1) (nI h.2.1)) (cQ cy q ar (nI h.1) (nI h.2.1)) (cS cy a v) (cS cy a v)).1 hS hA (fun H locs hP hD hS => ?_)
    have hP : va_P D vwCl ((cQ cy q ar (nI h.1) (nI h.2.1) ++ cR cy ar (va_up h.2.2 ((h.1 + h.2.1) % 14) v)) ++ cS cy a v) H := vP_perm hP (pmR cy ar h.2.2 (i := (h.1 + h.2.1) % 14) (by omega) v (cQ cy q ar (nI h.1) (nI h.2.1)) (cQ cy q ar (nI h.1) (nI h.2.1)) (cS cy a v) (cS cy a v)).2
    have hD : va_D A ((cQ cy q ar (nI h.1) (nI h.2.1) ++ cR cy ar (va_up h.2.2 ((h.1 + h.2.1) % 14) v)) ++ cS cy a v) := vD_perm hD (pmR cy ar h.2.2 (i := (h.1 + h.2.1) % 14) (by omega) v (cQ cy q ar (nI h.1) (nI h.2.1)) (cQ cy q ar (nI h.1) (nI h.2.1)) (cS cy a v) (cS cy a v)).2
    refine lv_aload_n hx hb dX1_remember_53 rfl (lv_at hl 0 rfl) ?_
    refine lv_dup hx hb dX1_remember_54 rfl ?_
    refine va_get (D := D) (ci := 1) (v := .int (nI h.2.1)) (C := RX1) (T := TX1) (N := 3) hx hb hts inX1_remember_X1 hown hK hP 0 rfl rfl 2 (by decide) (hts _ (List.mem_of_getElem? (i := 1) rfl)) (fun _ h9 => h9) rfl dX1_remember_55 ?_
    refine lv_iconst (v := 1) hx hb dX1_remember_58 (by decide) ?_
    refine lv_iadd hx hb dX1_remember_59 ?_
    refine lv_topi (fun yy eyy => ?_)
    have eyy : yy = (nI (h.2.1 + 1)) := by rw [eyy]; exact nI_1 _
    subst eyy
    refine va_put (D := D) (ci := 1) (v := .int (nI (h.2.1 + 1))) (ty := .int) (C := RX1) (T := TX1) (N := 3) hx hb hts inX1_remember_X1 tyX1 tyX1_ok nmX1 hown hK hP hD hS 0 rfl rfl 2 (by decide) (hts _ (List.mem_of_getElem? (i := 1) rfl)) (fun _ h9 => h9) rfl (by decide +kernel) rfl rfl (Nat.le_of_ble_eq_true rfl) dX1_remember_60 (fun H locs hP hD hS => ?_)
    have hP : va_P D vwCl ((cQ cy q ar (nI h.1) (nI (h.2.1 + 1)) ++ cR cy ar (va_up h.2.2 ((h.1 + h.2.1) % 14) v)) ++ cS cy a v) H := hP
    have hD : va_D A ((cQ cy q ar (nI h.1) (nI (h.2.1 + 1)) ++ cR cy ar (va_up h.2.2 ((h.1 + h.2.1) % 14) v)) ++ cS cy a v) := hD
    have hw9 : (cH cy q ar (hrem h v) ++ cS cy a v) = ((cQ cy q ar (nI h.1) (nI (h.2.1 + 1)) ++ cR cy ar (va_up h.2.2 ((h.1 + h.2.1) % 14) v)) ++ cS cy a v) := by unfold cH hrem; rw [if_neg hc]
    exact hret H locs _ ls (by rw [hw9]; exact hP) (by rw [hw9]; exact hD) hS dX1_remember_63
abbrev rX1_takeBack : Room := { frames := 3, cells := 0, slots := 0, locals := 103 }
theorem inX1_takeBack_X1 : ∀ w ∈ u_ws RX1 TX1 3, w ∈ wsX1_takeBack := by decide +kernel
set_option maxHeartbeats 4000000 in
set_option maxRecDepth 100000 in
theorem c_X1_takeBack (l : Launch) (D : va_G) (cy : Nat → ClassId) (q : Nat → Nat) (ar : Nat → Nat → Nat → Nat) (a : Nat → Nat → Nat) (h : HV) (v : SV) (sz : Nat) (ho : hok h) : CI l yX1_takeBack wsX1_takeBack rX1_takeBack D cy [.ref (q 0), .ref (a 0 0)] (cH cy q ar h ++ cS cy a v) sz (if h.2.1 = 0 then (0 : Int32) else 1) (cH cy q ar (if h.2.1 = 0 then h else hpop h) ++ cS cy a (if h.2.1 = 0 then v else htop h)) 0 0 := by
  refine st_i (ty := .boolean) (cc := cX1_takeBack) (maxL := 2) (by decide) rfl (by split <;> rfl) (Nat.le_of_ble_eq_true rfl) ?_
  intro pp e s m below meth c A Q ls hx hb hts hown hml hlocks hsz hP hK hD hE hA hl hret
  subst hsz
  have hown : s.vm.findClass RX1 = some m.cls := hown
  have hl : lv_has ls 2 [(0, .ref (q 0)), (1, .ref (a 0 0))] := hl
  obtain ⟨H, hH⟩ : ∃ H, H = s.heap := ⟨_, rfl⟩
  rw [← hH] at hP ⊢
  have hS : va_S A s.heap H [] := by rw [hH]; exact va_S.rf
  obtain ⟨locs, hlo⟩ : ∃ locs : List Loc, locs = [] := ⟨_, rfl⟩
  rw [← hlo] at hS ⊢
  obtain ⟨ho1, ho2⟩ := ho
  have hP : va_P D vwCl ((cQ cy q ar (nI h.1) (nI h.2.1) ++ cR cy ar h.2.2) ++ cS cy a v) H := hP
  have hD : va_D A ((cQ cy q ar (nI h.1) (nI h.2.1) ++ cR cy ar h.2.2) ++ cS cy a v) := hD
  by_cases hc : h.2.1 = 0
  · have hcc : nI h.2.1 = 0 := by rw [hc]; rfl
    refine lv_aload_n hx hb dX1_takeBack_0 rfl (lv_at hl 0 rfl) ?_
    refine va_get (D := D) (ci := 1) (v := .int (nI h.2.1)) (C := RX1) (T := TX1) (N := 3) hx hb hts inX1_takeBack_X1 hown hK hP 0 rfl rfl 2 (by decide) (hts _ (List.mem_of_getElem? (i := 1) rfl)) (fun _ h9 => h9) rfl dX1_takeBack_1 ?_
    refine lv_if_ne (tgt := 9) hx hb dX1_takeBack_4 (by decide) (fun c_1 => absurd hcc c_1) (fun c_1 => ?_)
    refine lv_iconst (v := 0) hx hb dX1_takeBack_7 (by decide) ?_
    exact hret _ H locs _ ls (if_pos hc).symm (by rw [if_pos hc, if_pos hc]; exact hP) (by rw [if_pos hc, if_pos hc]; exact hD) hS dX1_takeBack_8
  · have hcc : ¬ nI h.2.1 = 0 := fun q9 => hc ((nI_eq (a := h.2.1) (b := 0) (by omega) (by decide)).mp q9)
    refine lv_aload_n hx hb dX1_takeBack_0 rfl (lv_at hl 0 rfl) ?_
    refine va_get (D := D) (ci := 1) (v := .int (nI h.2.1)) (C := RX1) (T := TX1) (N := 3) hx hb hts inX1_takeBack_X1 hown hK hP 0 rfl rfl 2 (by decide) (hts _ (List.mem_of_getElem? (i := 1) rfl)) (fun _ h9 => h9) rfl dX1_takeBack_1 ?_
    refine lv_if_ne (tgt := 9) hx hb dX1_takeBack_4 (by decide) (fun c_1 => ?_) (fun c_1 => absurd c_1 hcc)
    refine lv_aload_n hx hb dX1_takeBack_9 rfl (lv_at hl 0 rfl) ?_
    refine lv_dup hx hb dX1_takeBack_10 rfl ?_
    refine va_get (D := D) (ci := 1) (v := .int (nI h.2.1)) (C := RX1) (T := TX1) (N := 3) hx hb hts inX1_takeBack_X1 hown hK hP 0 rfl rfl 2 (by decide) (hts _ (List.mem_of_getElem? (i := 1) rfl)) (fun _ h9 => h9) rfl dX1_takeBack_11 ?_
    refine lv_iconst (v := 1) hx hb dX1_takeBack_14 (by decide) ?_
    refine lv_isub hx hb dX1_takeBack_15 ?_
    refine lv_topi (fun yy eyy => ?_)
    have eyy : yy = (nI (h.2.1 - 1)) := by rw [eyy]; exact pk_sub (a := h.2.1) (b := 1) (by omega)
    subst eyy
    refine va_put (D := D) (ci := 1) (v := .int (nI (h.2.1 - 1))) (ty := .int) (C := RX1) (T := TX1) (N := 3) hx hb hts inX1_takeBack_X1 tyX1 tyX1_ok nmX1 hown hK hP hD hS 0 rfl rfl 2 (by decide) (hts _ (List.mem_of_getElem? (i := 1) rfl)) (fun _ h9 => h9) rfl (by decide +kernel) rfl rfl (Nat.le_of_ble_eq_true rfl) dX1_takeBack_16 (fun H locs hP hD hS => ?_)
    have hP : va_P D vwCl ((cQ cy q ar (nI h.1) (nI (h.2.1 - 1)) ++ cR cy ar h.2.2) ++ cS cy a v) H := hP
    have hD : va_D A ((cQ cy q ar (nI h.1) (nI (h.2.1 - 1)) ++ cR cy ar h.2.2) ++ cS cy a v) := hD
    refine lv_aload_n hx hb dX1_takeBack_19 rfl (lv_at hl 1 rfl) ?_
    refine lv_aload_n hx hb dX1_takeBack_20 rfl (lv_at hl 0 rfl) ?_
    refine va_get (D := D) (ci := 1) (v := .ref (q 1)) (C := RX1) (T := TX1) (N := 3) hx hb hts inX1_takeBack_X1 hown hK hP 0 rfl rfl 0 (by decide) (hts _ (List.mem_of_getElem? (i := 2) rfl)) (fun _ h9 => h9) rfl dX1_takeBack_21 ?_
    refine lv_aload_n hx hb dX1_takeBack_24 rfl (lv_at hl 0 rfl) ?_
    refine va_get (D := D) (ci := 1) (v := .int (nI h.1)) (C := RX1) (T := TX1) (N := 3) hx hb hts inX1_takeBack_X1 hown hK hP 0 rfl rfl 1 (by decide) (hts _ (List.mem_of_getElem? (i := 3) rfl)) (fun _ h9 => h9) rfl dX1_takeBack_25 ?_
    refine lv_aload_n hx hb dX1_takeBack_28 rfl (lv_at hl 0 rfl) ?_
    refine va_get (D := D) (ci := 1) (v := .int (nI (h.2.1 - 1))) (C := RX1) (T := TX1) (N := 3) hx hb hts inX1_takeBack_X1 hown hK hP 0 rfl rfl 2 (by decide) (hts _ (List.mem_of_getElem? (i := 1) rfl)) (fun _ h9 => h9) rfl dX1_takeBack_29 ?_
    refine lv_iadd hx hb dX1_takeBack_32 ?_
    refine lv_topi (fun yy eyy => ?_)
    have eyy : yy = (nI (h.1 + (h.2.1 - 1))) := by rw [eyy]; exact nI_add _ _
    subst eyy
    refine lv_bipush (v := 14) hx hb dX1_takeBack_33 (by decide) ?_
    refine lv_irem hx hb dX1_takeBack_35 (by decide) ?_
    refine lv_topi (fun yy eyy => ?_)
    have eyy : yy = (nI ((h.1 + (h.2.1 - 1)) % 14)) := by rw [eyy]; exact pk_rem (a := h.1 + (h.2.1 - 1)) (d := 14) (by omega) (by decide) (by decide)
    subst eyy
    refine x_aldq (v := .ref (ar ((h.1 + (h.2.1 - 1)) % 14) 0 0)) hx hb hK hP 1 3 rfl rfl (vp_in_nI (by omega) (by decide)) (by rw [nI_clamp (by omega)]; rfl) dX1_takeBack_36 ?_
    refine cl_n (va_runV (As := [.ref (ar ((h.1 + (h.2.1 - 1)) % 14) 0 0)]) (rest := []) ⟨hx, hb, hml, hown, hts⟩ (c_X3_copyFrom l D cy a (ar ((h.1 + (h.2.1 - 1)) % 14)) v (h.2.2 ((h.1 + (h.2.1 - 1)) % 14)) H.size) (cwV 1 hts gX1_takeBack_X3_copyFrom rfl rfl rfl (by decide +kernel) ⟨Nat.le_of_ble_eq_true rfl, Nat.le_of_ble_eq_true rfl⟩) ⟨blU, va_recv hK (vP_perm hP (pmR2 cy ar h.2.2 (i := (h.1 + (h.2.1 - 1)) % 14) (by omega) (cQ cy q ar (nI h.1) (nI (h.2.1 - 1))) (cS cy a v) (cS cy a (h.2.2 ((h.1 + (h.2.1 - 1)) % 14)))).1) (ci := 2) (q0 := 0) rfl rfl, preU hP hD (pmR2 cy ar h.2.2 (i := (h.1 + (h.2.1 - 1)) % 14) (by omega) (cQ cy q ar (nI h.1) (nI (h.2.1 - 1))) (cS cy a v) (cS cy a (h.2.2 ((h.1 + (h.2.1 - 1)) % 14)))).1 hK hE hS hA⟩ rfl rfl hl.1 rfl (lv_room (Nat.le_of_ble_eq_true rfl)) dX1_takeBack_37 ⟨Nat.le_of_ble_eq_true rfl, Nat.le_of_ble_eq_true rfl⟩) hP hD (pmR2 cy ar h.2.2 (i := (h.1 + (h.2.1 - 1)) % 14) (by omega) (cQ cy q ar (nI h.1) (nI (h.2.1 - 1))) (cS cy a v) (cS cy a (h.2.2 ((h.1 + (h.2.1 - 1)) % 14)))).1 hS hA (fun H locs hP hD hS => ?_)
    have hP : va_P D vwCl ((cQ cy q ar (nI h.1) (nI (h.2.1 - 1)) ++ cR cy ar h.2.2) ++ cS cy a (h.2.2 ((h.1 + (h.2.1 - 1)) % 14))) H := vP_perm hP (pmR2 cy ar h.2.2 (i := (h.1 + (h.2.1 - 1)) % 14) (by omega) (cQ cy q ar (nI h.1) (nI (h.2.1 - 1))) (cS cy a v) (cS cy a (h.2.2 ((h.1 + (h.2.1 - 1)) % 14)))).2
    have hD : va_D A ((cQ cy q ar (nI h.1) (nI (h.2.1 - 1)) ++ cR cy ar h.2.2) ++ cS cy a (h.2.2 ((h.1 + (h.2.1 - 1)) % 14))) := vD_perm hD (pmR2 cy ar h.2.2 (i := (h.1 + (h.2.1 - 1)) % 14) (by omega) (cQ cy q ar (nI h.1) (nI (h.2.1 - 1))) (cS cy a v) (cS cy a (h.2.2 ((h.1 + (h.2.1 - 1)) % 14)))).2
    refine lv_iconst (v := 1) hx hb dX1_takeBack_40 (by decide) ?_
    exact hret _ H locs _ ls (if_neg hc).symm (by rw [if_neg hc, if_neg hc]; exact hP) (by rw [if_neg hc, if_neg hc]; exact hD) hS dX1_takeBack_41
