/-! ===== Text.read, isPlayable ===== -/
/-- what holds of a text with n characters read: as TI, the steps where they are few enough -/
def TJ (n : Nat) (x : RV) : Prop := ∃ (o k : Nat) (s : Nat → Nat), o ≤ 4 ∧ x 5 0 = nI o ∧ x 4 0 = nI k ∧ (∀ j, j < o → x 2 j = nI (s j)) ∧ mono s o k ∧ pw s o k ≤ 6561 * n ∧ (∃ g, g < 26 ∧ x 6 0 = nI g) ∧ (k ≤ 300 → ∀ j, j < k → vp_in (x 1 j / 2) 26)
theorem TJ.small {n : Nat} {x : RV} (h : TJ n x) (hn : n ≤ 80) : ∃ (o k : Nat) (s : Nat → Nat), o ≤ 4 ∧ x 5 0 = nI o ∧ x 4 0 = nI k ∧ (∀ j, j < o → x 2 j = nI (s j)) ∧ mono s o k ∧ k ≤ 524880 := by
  obtain ⟨o, k, s, h1, h2, h3, h4, h5, h6, -⟩ := h
  have := pw_ge h5
  exact ⟨o, k, s, h1, h2, h3, h4, h5, by omega⟩
theorem TJ.cnt {n : Nat} {x : RV} (h : TJ n x) (hn : n ≤ 80) : ¬ x 4 0 < 0 := by
  obtain ⟨o, k, s, h1, h2, h3, h4, h5, h6⟩ := h.small hn
  rw [h3]
  exact nI_pos (by omega)
theorem TJ.opn {n : Nat} {x : RV} (h : TJ n x) : ¬ x 5 0 < 0 := by
  obtain ⟨o, k, s, h1, h2, h3, -⟩ := h
  rw [h2]
  exact nI_pos (by omega)
theorem TJ.dig {n : Nat} {x : RV} (h : TJ n x) (hn : n ≤ 80) (h1 : (1 : Int32) ≤ x 5 0) : ∃ o k s0 : Nat, o < 4 ∧ x 5 0 - 1 = nI o ∧ x 2 o = nI s0 ∧ x 4 0 = nI k ∧ s0 ≤ k ∧ k ≤ 524880 := by
  obtain ⟨o, k, s, a1, a2, a3, a4, a5, a6⟩ := h.small hn
  rw [a2] at h1
  have ho : 1 ≤ o := (nI_leI (a := 1) (b := o) (by decide) (by omega)).mp h1
  obtain ⟨o', rfl⟩ : ∃ o', o = o' + 1 := ⟨o - 1, by omega⟩
  exact ⟨o', k, s o', by omega, by rw [a2, nI_pred], a4 o' (by omega), a3, a5.1, a6⟩
theorem TJ.rep {x : RV} {ch : Int32} (hti : ∃ n, n ≤ 80 ∧ TJ n x) (h1 : (1 : Int32) ≤ x 5 0) (h2 : ¬ ch < 50) (h3 : ¬ (57 : Int32) < ch) : vp_in (x 5 0 - 1) 4 ∧ ∃ s0 k t : Nat, s0 ≤ k ∧ k ≤ 524880 ∧ t ≤ 9 ∧ x 4 0 = nI k ∧ x 2 (x 5 0 - 1).toNatClampNeg = nI s0 ∧ ch - 48 = nI t := by
  obtain ⟨n, hn, h⟩ := hti
  obtain ⟨o, k, s0, a1, a2, a3, a4, a5, a6⟩ := h.dig hn h1
  obtain ⟨t, b1, b2, b3⟩ := dg_t h2 h3
  rw [a2]
  refine ⟨vp_in_nI a1 (by decide), s0, k, t, a5, a6, b2, a4, ?_, b3⟩
  rw [nI_clamp (by omega)]
  exact a3

set_option maxHeartbeats 4000000 in
set_option maxRecDepth 100000 in
theorem c_X4_readDigitJ (l : Launch) (D : va_G) (cy : Nat → ClassId) (a : Nat → Nat) (x : RV) (ch : Int32) (sz : Nat) (hti : ∃ n, n ≤ 80 ∧ TJ n x) : CI l yX4_readDigit wsX4_readDigit rX4_readDigit D cy [.ref (a 0), .int ch] (cT cy a x) sz (r_X4_readDigit x ch) (cT cy a (w_X4_readDigit x ch)) 0 0 := by
  refine st_i (ty := .boolean) (cc := cX4_readDigit) (maxL := 2) (by decide) rfl (zn_X4_readDigit x ch) (Nat.le_of_ble_eq_true rfl) ?_
  intro pp e s m below meth c A Q ls hx hb hts hown hml hlocks hsz hP hK hD hE hA hl hret
  subst hsz
  have hown : s.vm.findClass RX4 = some m.cls := hown
  have hl : lv_has ls 2 [(0, .ref (a 0)), (1, .int ch)] := hl
  obtain ⟨H, hH⟩ : ∃ H, H = s.heap := ⟨_, rfl⟩
  rw [← hH] at hP ⊢
  have hS : va_S A s.heap H [] := by rw [hH]; exact va_S.rf
  obtain ⟨locs, hlo⟩ : ∃ locs : List Loc, locs = [] := ⟨_, rfl⟩
  rw [← hlo] at hS ⊢
  refine lv_iload_n hx hb dX4_readDigit_0 rfl (lv_at hl 1 rfl) ?_
  refine lv_bipush (v := 50) hx hb dX4_readDigit_1 (by decide) ?_
  refine lv_icmp_lt (tgt := 20) hx hb dX4_readDigit_3 (by decide) (fun c_1 => ?_) (fun c_1 => ?_)
  · refine lv_iconst (v := 0) hx hb dX4_readDigit_20 (by decide) ?_
    have hr9 : (0 : Int32) = (r_X4_readDigit x ch) := by unfold r_X4_readDigit; simp only [if_pos c_1, if_true, if_false]
    have hw9 : (w_X4_readDigit x ch) = x := by unfold w_X4_readDigit; simp only [if_pos c_1, if_true, if_false]
    exact hret _ H locs _ ls hr9 (by rw [hw9]; exact hP) (by rw [hw9]; exact hD) hS dX4_readDigit_21
  · refine lv_iload_n hx hb dX4_readDigit_6 rfl (lv_at hl 1 rfl) ?_
    refine lv_bipush (v := 57) hx hb dX4_readDigit_7 (by decide) ?_
    refine lv_icmp_gt (tgt := 20) hx hb dX4_readDigit_9 (by decide) (fun c_2 => ?_) (fun c_2 => ?_)
    · refine lv_iconst (v := 0) hx hb dX4_readDigit_20 (by decide) ?_
      have hr9 : (0 : Int32) = (r_X4_readDigit x ch) := by unfold r_X4_readDigit; simp only [if_neg c_1, if_pos c_2, if_true, if_false]
      have hw9 : (w_X4_readDigit x ch) = x := by unfold w_X4_readDigit; simp only [if_neg c_1, if_pos c_2, if_true, if_false]
      exact hret _ H locs _ ls hr9 (by rw [hw9]; exact hP) (by rw [hw9]; exact hD) hS dX4_readDigit_21
    · refine lv_aload_n hx hb dX4_readDigit_12 rfl (lv_at hl 0 rfl) ?_
      refine va_get (D := D) (ci := 3) (v := .int (x 5 0)) (C := RX4) (T := TX4) (N := 8) hx hb hts inX4_readDigit_X4 hown hK hP 0 rfl rfl 5 (by decide) (hts _ (List.mem_of_getElem? (i := 1) rfl)) (fun _ h9 => h9) rfl dX4_readDigit_13 ?_
      refine lv_iconst (v := 1) hx hb dX4_readDigit_16 (by decide) ?_
      refine lv_icmp_ge (tgt := 22) hx hb dX4_readDigit_17 (by decide) (fun c_3 => ?_) (fun c_3 => ?_)
      · refine lv_aload_n hx hb dX4_readDigit_22 rfl (lv_at hl 0 rfl) ?_
        refine lv_dup hx hb dX4_readDigit_23 rfl ?_
        refine va_get (D := D) (ci := 3) (v := .int (x 5 0)) (C := RX4) (T := TX4) (N := 8) hx hb hts inX4_readDigit_X4 hown hK hP 0 rfl rfl 5 (by decide) (hts _ (List.mem_of_getElem? (i := 1) rfl)) (fun _ h9 => h9) rfl dX4_readDigit_24 ?_
        refine lv_iconst (v := 1) hx hb dX4_readDigit_27 (by decide) ?_
        refine lv_isub hx hb dX4_readDigit_28 ?_
        refine va_put (D := D) (ci := 3) (v := .int ((x 5 0) - (1 : Int32))) (ty := .int) (C := RX4) (T := TX4) (N := 8) hx hb hts inX4_readDigit_X4 tyX4 tyX4_ok nmX4 hown hK hP hD hS 0 rfl rfl 5 (by decide) (hts _ (List.mem_of_getElem? (i := 1) rfl)) (fun _ h9 => h9) rfl (by decide +kernel) rfl rfl (Nat.le_of_ble_eq_true rfl) dX4_readDigit_29 (fun H locs hP hD hS => ?_)
        have hP : va_P D vwCl (cT cy a (mkT (x 0) (x 1) (x 2) (x 3 0) (x 4 0) ((x 5 0) - (1 : Int32)) (x 6 0) (x 7 0))) H := hP
        have hD : va_D A (cT cy a (mkT (x 0) (x 1) (x 2) (x 3 0) (x 4 0) ((x 5 0) - (1 : Int32)) (x 6 0) (x 7 0))) := hD
        refine lv_aload_n hx hb dX4_readDigit_32 rfl (lv_at hl 0 rfl) ?_
        refine lv_aload_n hx hb dX4_readDigit_33 rfl (lv_at hl 0 rfl) ?_
        refine va_get (D := D) (ci := 3) (v := .ref (a 3)) (C := RX4) (T := TX4) (N := 8) hx hb hts inX4_readDigit_X4 hown hK hP 0 rfl rfl 4 (by decide) (hts _ (List.mem_of_getElem? (i := 2) rfl)) (fun _ h9 => h9) rfl dX4_readDigit_34 ?_
        refine lv_aload_n hx hb dX4_readDigit_37 rfl (lv_at hl 0 rfl) ?_
        refine va_get (D := D) (ci := 3) (v := .int ((x 5 0) - (1 : Int32))) (C := RX4) (T := TX4) (N := 8) hx hb hts inX4_readDigit_X4 hown hK hP 0 rfl rfl 5 (by decide) (hts _ (List.mem_of_getElem? (i := 1) rfl)) (fun _ h9 => h9) rfl dX4_readDigit_38 ?_
        refine x_iald (f := (x 2)) (j := ((x 5 0) - (1 : Int32)).toNatClampNeg) hx hb hK hP 3 0 rfl rfl rfl (TJ.rep hti c_3 c_1 c_2).1 dX4_readDigit_41 ?_
        refine lv_iload_n hx hb dX4_readDigit_42 rfl (lv_at hl 1 rfl) ?_
        refine lv_bipush (v := 48) hx hb dX4_readDigit_43 (by decide) ?_
        refine lv_isub hx hb dX4_readDigit_45 ?_
        refine cl_n (va_runV (As := [.int ((x 2) ((x 5 0) - (1 : Int32)).toNatClampNeg), .int (ch - (48 : Int32))]) (rest := []) ⟨hx, hb, hml, hown, hts⟩ (c_X4_repeatFrom l D cy a (mkT (x 0) (x 1) (x 2) (x 3 0) (x 4 0) ((x 5 0) - (1 : Int32)) (x 6 0) (x 7 0)) ((x 2) ((x 5 0) - (1 : Int32)).toNatClampNeg) (ch - (48 : Int32)) H.size ((TJ.rep hti c_3 c_1 c_2).2)) (cwV 2 hts gX4_readDigit_X4_repeatFrom rfl rfl rfl (by decide +kernel) ⟨Nat.le_of_ble_eq_true rfl, Nat.le_of_ble_eq_true rfl⟩) ⟨blU, va_recv hK hP (ci := 3) (q0 := 0) rfl rfl, preU hP hD (pmI _) hK hE hS hA⟩ rfl rfl hl.1 rfl (lv_room (Nat.le_of_ble_eq_true rfl)) dX4_readDigit_46 ⟨Nat.le_of_ble_eq_true rfl, Nat.le_of_ble_eq_true rfl⟩) hP hD (pmI _) hS hA (fun H locs hP hD hS => ?_)
        have hP : va_P D vwCl (cT cy a (w_X4_repeatFrom (mkT (x 0) (x 1) (x 2) (x 3 0) (x 4 0) ((x 5 0) - (1 : Int32)) (x 6 0) (x 7 0)) ((x 2) ((x 5 0) - (1 : Int32)).toNatClampNeg) (ch - (48 : Int32)))) H := vP_perm hP (pmI _).symm
        have hD : va_D A (cT cy a (w_X4_repeatFrom (mkT (x 0) (x 1) (x 2) (x 3 0) (x 4 0) ((x 5 0) - (1 : Int32)) (x 6 0) (x 7 0)) ((x 2) ((x 5 0) - (1 : Int32)).toNatClampNeg) (ch - (48 : Int32)))) := vD_perm hD (pmI _).symm
        refine lv_aload_n hx hb dX4_readDigit_49 rfl (lv_at hl 0 rfl) ?_
        refine lv_iconst (v := 1) hx hb dX4_readDigit_50 (by decide) ?_
        refine va_put (D := D) (ci := 3) (v := .int (1 : Int32)) (ty := .int) (C := RX4) (T := TX4) (N := 8) hx hb hts inX4_readDigit_X4 tyX4 tyX4_ok nmX4 hown hK hP hD hS 0 rfl rfl 7 (by decide) (hts _ (List.mem_of_getElem? (i := 3) rfl)) (fun _ h9 => h9) rfl (by decide +kernel) rfl rfl (Nat.le_of_ble_eq_true rfl) dX4_readDigit_51 (fun H locs hP hD hS => ?_)
        have hP : va_P D vwCl (cT cy a (mkT ((w_X4_repeatFrom (mkT (x 0) (x 1) (x 2) (x 3 0) (x 4 0) ((x 5 0) - (1 : Int32)) (x 6 0) (x 7 0)) ((x 2) ((x 5 0) - (1 : Int32)).toNatClampNeg) (ch - (48 : Int32))) 0) ((w_X4_repeatFrom (mkT (x 0) (x 1) (x 2) (x 3 0) (x 4 0) ((x 5 0) - (1 : Int32)) (x 6 0) (x 7 0)) ((x 2) ((x 5 0) - (1 : Int32)).toNatClampNeg) (ch - (48 : Int32))) 1) ((w_X4_repeatFrom (mkT (x 0) (x 1) (x 2) (x 3 0) (x 4 0) ((x 5 0) - (1 : Int32)) (x 6 0) (x 7 0)) ((x 2) ((x 5 0) - (1 : Int32)).toNatClampNeg) (ch - (48 : Int32))) 2) ((w_X4_repeatFrom (mkT (x 0) (x 1) (x 2) (x 3 0) (x 4 0) ((x 5 0) - (1 : Int32)) (x 6 0) (x 7 0)) ((x 2) ((x 5 0) - (1 : Int32)).toNatClampNeg) (ch - (48 : Int32))) 3 0) ((w_X4_repeatFrom (mkT (x 0) (x 1) (x 2) (x 3 0) (x 4 0) ((x 5 0) - (1 : Int32)) (x 6 0) (x 7 0)) ((x 2) ((x 5 0) - (1 : Int32)).toNatClampNeg) (ch - (48 : Int32))) 4 0) ((w_X4_repeatFrom (mkT (x 0) (x 1) (x 2) (x 3 0) (x 4 0) ((x 5 0) - (1 : Int32)) (x 6 0) (x 7 0)) ((x 2) ((x 5 0) - (1 : Int32)).toNatClampNeg) (ch - (48 : Int32))) 5 0) ((w_X4_repeatFrom (mkT (x 0) (x 1) (x 2) (x 3 0) (x 4 0) ((x 5 0) - (1 : Int32)) (x 6 0) (x 7 0)) ((x 2) ((x 5 0) - (1 : Int32)).toNatClampNeg) (ch - (48 : Int32))) 6 0) (1 : Int32))) H := hP
        have hD : va_D A (cT cy a (mkT ((w_X4_repeatFrom (mkT (x 0) (x 1) (x 2) (x 3 0) (x 4 0) ((x 5 0) - (1 : Int32)) (x 6 0) (x 7 0)) ((x 2) ((x 5 0) - (1 : Int32)).toNatClampNeg) (ch - (48 : Int32))) 0) ((w_X4_repeatFrom (mkT (x 0) (x 1) (x 2) (x 3 0) (x 4 0) ((x 5 0) - (1 : Int32)) (x 6 0) (x 7 0)) ((x 2) ((x 5 0) - (1 : Int32)).toNatClampNeg) (ch - (48 : Int32))) 1) ((w_X4_repeatFrom (mkT (x 0) (x 1) (x 2) (x 3 0) (x 4 0) ((x 5 0) - (1 : Int32)) (x 6 0) (x 7 0)) ((x 2) ((x 5 0) - (1 : Int32)).toNatClampNeg) (ch - (48 : Int32))) 2) ((w_X4_repeatFrom (mkT (x 0) (x 1) (x 2) (x 3 0) (x 4 0) ((x 5 0) - (1 : Int32)) (x 6 0) (x 7 0)) ((x 2) ((x 5 0) - (1 : Int32)).toNatClampNeg) (ch - (48 : Int32))) 3 0) ((w_X4_repeatFrom (mkT (x 0) (x 1) (x 2) (x 3 0) (x 4 0) ((x 5 0) - (1 : Int32)) (x 6 0) (x 7 0)) ((x 2) ((x 5 0) - (1 : Int32)).toNatClampNeg) (ch - (48 : Int32))) 4 0) ((w_X4_repeatFrom (mkT (x 0) (x 1) (x 2) (x 3 0) (x 4 0) ((x 5 0) - (1 : Int32)) (x 6 0) (x 7 0)) ((x 2) ((x 5 0) - (1 : Int32)).toNatClampNeg) (ch - (48 : Int32))) 5 0) ((w_X4_repeatFrom (mkT (x 0) (x 1) (x 2) (x 3 0) (x 4 0) ((x 5 0) - (1 : Int32)) (x 6 0) (x 7 0)) ((x 2) ((x 5 0) - (1 : Int32)).toNatClampNeg) (ch - (48 : Int32))) 6 0) (1 : Int32))) := hD
        refine lv_iconst (v := 1) hx hb dX4_readDigit_54 (by decide) ?_
        have hr9 : (1 : Int32) = (r_X4_readDigit x ch) := by unfold r_X4_readDigit; simp only [if_neg c_1, if_neg c_2, if_pos c_3, if_true, if_false]
        have hw9 : (w_X4_readDigit x ch) = (mkT ((w_X4_repeatFrom (mkT (x 0) (x 1) (x 2) (x 3 0) (x 4 0) ((x 5 0) - (1 : Int32)) (x 6 0) (x 7 0)) ((x 2) ((x 5 0) - (1 : Int32)).toNatClampNeg) (ch - (48 : Int32))) 0) ((w_X4_repeatFrom (mkT (x 0) (x 1) (x 2) (x 3 0) (x 4 0) ((x 5 0) - (1 : Int32)) (x 6 0) (x 7 0)) ((x 2) ((x 5 0) - (1 : Int32)).toNatClampNeg) (ch - (48 : Int32))) 1) ((w_X4_repeatFrom (mkT (x 0) (x 1) (x 2) (x 3 0) (x 4 0) ((x 5 0) - (1 : Int32)) (x 6 0) (x 7 0)) ((x 2) ((x 5 0) - (1 : Int32)).toNatClampNeg) (ch - (48 : Int32))) 2) ((w_X4_repeatFrom (mkT (x 0) (x 1) (x 2) (x 3 0) (x 4 0) ((x 5 0) - (1 : Int32)) (x 6 0) (x 7 0)) ((x 2) ((x 5 0) - (1 : Int32)).toNatClampNeg) (ch - (48 : Int32))) 3 0) ((w_X4_repeatFrom (mkT (x 0) (x 1) (x 2) (x 3 0) (x 4 0) ((x 5 0) - (1 : Int32)) (x 6 0) (x 7 0)) ((x 2) ((x 5 0) - (1 : Int32)).toNatClampNeg) (ch - (48 : Int32))) 4 0) ((w_X4_repeatFrom (mkT (x 0) (x 1) (x 2) (x 3 0) (x 4 0) ((x 5 0) - (1 : Int32)) (x 6 0) (x 7 0)) ((x 2) ((x 5 0) - (1 : Int32)).toNatClampNeg) (ch - (48 : Int32))) 5 0) ((w_X4_repeatFrom (mkT (x 0) (x 1) (x 2) (x 3 0) (x 4 0) ((x 5 0) - (1 : Int32)) (x 6 0) (x 7 0)) ((x 2) ((x 5 0) - (1 : Int32)).toNatClampNeg) (ch - (48 : Int32))) 6 0) (1 : Int32)) := by unfold w_X4_readDigit; simp only [if_neg c_1, if_neg c_2, if_pos c_3, if_true, if_false]
        exact hret _ H locs _ ls hr9 (by rw [hw9]; exact hP) (by rw [hw9]; exact hD) hS dX4_readDigit_55
      · refine lv_iconst (v := 0) hx hb dX4_readDigit_20 (by decide) ?_
        have hr9 : (0 : Int32) = (r_X4_readDigit x ch) := by unfold r_X4_readDigit; simp only [if_neg c_1, if_neg c_2, if_neg c_3, if_true, if_false]
        have hw9 : (w_X4_readDigit x ch) = x := by unfold w_X4_readDigit; simp only [if_neg c_1, if_neg c_2, if_neg c_3, if_true, if_false]
        exact hret _ H locs _ ls hr9 (by rw [hw9]; exact hP) (by rw [hw9]; exact hD) hS dX4_readDigit_21

set_option maxHeartbeats 4000000 in
set_option maxRecDepth 100000 in
theorem c_X4_readCharacterJ (l : Launch) (D : va_G) (cy : Nat → ClassId) (a : Nat → Nat) (x : RV) (ch : Int32) (sz : Nat) (hti : ∃ n, n ≤ 80 ∧ TJ n x) : CI l yX4_readCharacter wsX4_readCharacter rX4_readCharacter D cy [.ref (a 0), .int ch] (cT cy a x) sz (r_X4_readCharacter x ch) (cT cy a (w_X4_readCharacter x ch)) 0 0 := by
  refine st_i (ty := .boolean) (cc := cX4_readCharacter) (maxL := 2) (by decide) rfl (zn_rc x ch) (Nat.le_of_ble_eq_true rfl) ?_
  intro pp e s m below meth c A Q ls hx hb hts hown hml hlocks hsz hP hK hD hE hA hl hret
  subst hsz
  have hown : s.vm.findClass RX4 = some m.cls := hown
  have hl : lv_has ls 2 [(0, .ref (a 0)), (1, .int ch)] := hl
  obtain ⟨H, hH⟩ : ∃ H, H = s.heap := ⟨_, rfl⟩
  rw [← hH] at hP ⊢
  have hS : va_S A s.heap H [] := by rw [hH]; exact va_S.rf
  obtain ⟨locs, hlo⟩ : ∃ locs : List Loc, locs = [] := ⟨_, rfl⟩
  rw [← hlo] at hS ⊢
  refine lv_aload_n hx hb dX4_readCharacter_0 rfl (lv_at hl 0 rfl) ?_
  refine va_get (D := D) (ci := 3) (v := .int (x 7 0)) (C := RX4) (T := TX4) (N := 8) hx hb hts inX4_readCharacter_X4 hown hK hP 0 rfl rfl 7 (by decide) (hts _ (List.mem_of_getElem? (i := 1) rfl)) (fun _ h9 => h9) rfl dX4_readCharacter_1 ?_
  by_cases c_1 : (x 7 0) = 2
  · refine lv_lookup (tgt := 32) (off := 28) hx hb dX4_readCharacter_4 (by decide) (by rw [c_1]; rfl) (by decide) ?_
    refine lv_aload_n hx hb dX4_readCharacter_32 rfl (lv_at hl 0 rfl) ?_
    refine lv_iload_n hx hb dX4_readCharacter_33 rfl (lv_at hl 1 rfl) ?_
    refine cl_i (va_runV (As := [.int ch]) (rest := []) ⟨hx, hb, hml, hown, hts⟩ (c_X4_readSign l D cy a x ch H.size (hti.choose_spec.2.cnt hti.choose_spec.1)) (cwV 1 hts gX4_readCharacter_X4_readSign rfl rfl rfl (by decide +kernel) ⟨Nat.le_of_ble_eq_true rfl, Nat.le_of_ble_eq_true rfl⟩) ⟨blU, va_recv hK hP (ci := 3) (q0 := 0) rfl rfl, preU hP hD (pmI _) hK hE hS hA⟩ rfl rfl hl.1 rfl (lv_room (Nat.le_of_ble_eq_true rfl)) dX4_readCharacter_34 ⟨Nat.le_of_ble_eq_true rfl, Nat.le_of_ble_eq_true rfl⟩) hP hD (pmI _) hS hA (fun H locs hP hD hS => ?_)
    have hP : va_P D vwCl (cT cy a (w_X4_readSign x ch)) H := vP_perm hP (pmI _).symm
    have hD : va_D A (cT cy a (w_X4_readSign x ch)) := vD_perm hD (pmI _).symm
    have hr9 : (r_X4_readSign x ch) = (r_X4_readCharacter x ch) := by unfold r_X4_readCharacter; simp only [if_pos c_1, if_true, if_false]
    have hw9 : (w_X4_readCharacter x ch) = (w_X4_readSign x ch) := by unfold w_X4_readCharacter; simp only [if_pos c_1, if_true, if_false]
    exact hret _ H locs _ ls hr9 (by rw [hw9]; exact hP) (by rw [hw9]; exact hD) hS dX4_readCharacter_37
  · by_cases c_2 : (x 7 0) = 3
    · refine lv_lookup (tgt := 38) (off := 34) hx hb dX4_readCharacter_4 (by decide) (by rw [c_2]; rfl) (by decide) ?_
      refine lv_aload_n hx hb dX4_readCharacter_38 rfl (lv_at hl 0 rfl) ?_
      refine lv_iload_n hx hb dX4_readCharacter_39 rfl (lv_at hl 1 rfl) ?_
      refine cl_i (va_runV (As := [.int ch]) (rest := []) ⟨hx, hb, hml, hown, hts⟩ (c_X4_readDigitJ l D cy a x ch H.size hti) (cwV 1 hts gX4_readCharacter_X4_readDigit rfl rfl rfl (by decide +kernel) ⟨Nat.le_of_ble_eq_true rfl, Nat.le_of_ble_eq_true rfl⟩) ⟨blU, va_recv hK hP (ci := 3) (q0 := 0) rfl rfl, preU hP hD (pmI _) hK hE hS hA⟩ rfl rfl hl.1 rfl (lv_room (Nat.le_of_ble_eq_true rfl)) dX4_readCharacter_40 ⟨Nat.le_of_ble_eq_true rfl, Nat.le_of_ble_eq_true rfl⟩) hP hD (pmI _) hS hA (fun H locs hP hD hS => ?_)
      have hP : va_P D vwCl (cT cy a (w_X4_readDigit x ch)) H := vP_perm hP (pmI _).symm
      have hD : va_D A (cT cy a (w_X4_readDigit x ch)) := vD_perm hD (pmI _).symm
      have hr9 : (r_X4_readDigit x ch) = (r_X4_readCharacter x ch) := by unfold r_X4_readCharacter; simp only [if_neg c_1, if_pos c_2, if_true, if_false]
      have hw9 : (w_X4_readCharacter x ch) = (w_X4_readDigit x ch) := by unfold w_X4_readCharacter; simp only [if_neg c_1, if_pos c_2, if_true, if_false]
      exact hret _ H locs _ ls hr9 (by rw [hw9]; exact hP) (by rw [hw9]; exact hD) hS dX4_readCharacter_43
    · refine lv_lookup (tgt := 44) (off := 40) hx hb dX4_readCharacter_4 (by decide) (by rw [lv_osw c_1 (by decide)]; rw [lv_osw c_2 (by decide)]; rfl) (by decide) ?_
      refine lv_aload_n hx hb dX4_readCharacter_44 rfl (lv_at hl 0 rfl) ?_
      refine lv_iload_n hx hb dX4_readCharacter_45 rfl (lv_at hl 1 rfl) ?_
      refine cl_i (va_runV (As := [.int ch]) (rest := []) ⟨hx, hb, hml, hown, hts⟩ (c_X4_readItem l D cy a x ch H.size hti.choose_spec.2.opn) (cwV 1 hts gX4_readCharacter_X4_readItem rfl rfl rfl (by decide +kernel) ⟨Nat.le_of_ble_eq_true rfl, Nat.le_of_ble_eq_true rfl⟩) ⟨blU, va_recv hK hP (ci := 3) (q0 := 0) rfl rfl, preU hP hD (pmI _) hK hE hS hA⟩ rfl rfl hl.1 rfl (lv_room (Nat.le_of_ble_eq_true rfl)) dX4_readCharacter_46 ⟨Nat.le_of_ble_eq_true rfl, Nat.le_of_ble_eq_true rfl⟩) hP hD (pmI _) hS hA (fun H locs hP hD hS => ?_)
      have hP : va_P D vwCl (cT cy a (w_X4_readItem x ch)) H := vP_perm hP (pmI _).symm
      have hD : va_D A (cT cy a (w_X4_readItem x ch)) := vD_perm hD (pmI _).symm
      have hr9 : (r_X4_readItem x ch) = (r_X4_readCharacter x ch) := by unfold r_X4_readCharacter; simp only [if_neg c_1, if_neg c_2, if_true, if_false]
      have hw9 : (w_X4_readCharacter x ch) = (w_X4_readItem x ch) := by unfold w_X4_readCharacter; simp only [if_neg c_1, if_neg c_2, if_true, if_false]
      exact hret _ H locs _ ls hr9 (by rw [hw9]; exact hP) (by rw [hw9]; exact hD) hS dX4_readCharacter_49

/-- the answer of read when all characters are allowed -/
def rd_end (y : RV) : Int32 := (if (if (y 5 0) = 0 then (if (y 7 0) = 0 then (1 : Int32) else (if (y 7 0) = (1 : Int32) then (1 : Int32) else (0 : Int32))) else (0 : Int32)) = 0 then (y 3 0) else (-99999 : Int32))
/-- n characters from the place i on -/
def rd (c : Nat → Int32) : Nat → Nat → RV → Int32 × RV
  | 0, _, y => (rd_end y, y)
  | n + 1, i, y => if r_X4_readCharacter y (c i) = 0 then (nI i, w_X4_readCharacter y (c i)) else rd c n (i + 1) (w_X4_readCharacter y (c i))
def rd0 (x : RV) : RV := mkT (x 0) (x 1) (x 2) (x 3 0) 0 0 (x 6 0) 0
def rdx (x : RV) : Int32 × RV := rd (x 0) (x 3 0).toNatClampNeg 0 (rd0 x)
def r_X4_read (x : RV) : Int32 := (rdx x).1
def w_X4_read (x : RV) : RV := (rdx x).2

theorem rc_row0 (y : RV) (ch : Int32) : w_X4_readCharacter y ch 0 = y 0 := by
  unfold w_X4_readCharacter w_X4_readSign w_X4_readDigit w_X4_readItem w_X4_repeatFrom
  repeat' split
  all_goals rfl
theorem rc_len (y : RV) (ch : Int32) : w_X4_readCharacter y ch 3 0 = y 3 0 := by
  unfold w_X4_readCharacter w_X4_readSign w_X4_readDigit w_X4_readItem w_X4_repeatFrom
  repeat' split
  all_goals rfl
theorem TJ_start (x : RV) (hg : ∃ g, g < 26 ∧ x 6 0 = nI g) : TJ 0 (rd0 x) := ⟨0, 0, fun _ => 0, by omega, rfl, rfl, fun j hj => absurd hj (Nat.not_lt_zero j), trivial, Nat.le_refl _, hg, fun _ j hj => absurd hj (Nat.not_lt_zero j)⟩

theorem pw_congr {s s' : Nat → Nat} : ∀ {o k : Nat}, (∀ j, j < o → s' j = s j) → pw s' o k = pw s o k
  | 0, _, _ => rfl
  | o + 1, k, h => by
    show (k - s' o) * 9 ^ (o + 1) + pw s' o (s' o) = (k - s o) * 9 ^ (o + 1) + pw s o (s o)
    rw [h o (Nat.lt_succ_self o), pw_congr (fun j hj => h j (by omega))]
theorem mono_congr {s s' : Nat → Nat} : ∀ {o k : Nat}, (∀ j, j < o → s' j = s j) → mono s o k → mono s' o k
  | 0, _, _, _ => trivial
  | o + 1, k, h, hm => by
    show s' o ≤ k ∧ mono s' o (s' o)
    rw [h o (Nat.lt_succ_self o)]
    exact ⟨hm.1, mono_congr (fun j hj => h j (by omega)) hm.2⟩
theorem pw_add {s : Nat → Nat} : ∀ {o k d : Nat}, mono s o k → pw s o (k + d) = pw s o k + d * 9 ^ o
  | 0, k, d, _ => by
    show k + d = k + d * 9 ^ 0
    rw [Nat.pow_zero, Nat.mul_one]
  | o + 1, k, d, h => by
    show (k + d - s o) * 9 ^ (o + 1) + pw s o (s o) = (k - s o) * 9 ^ (o + 1) + pw s o (s o) + d * 9 ^ (o + 1)
    have h1 : k + d - s o = (k - s o) + d := by have := h.1; omega
    rw [h1, Nat.add_mul]
    omega
theorem mono_add {s : Nat → Nat} : ∀ {o k d : Nat}, mono s o k → mono s o (k + d)
  | 0, _, _, _ => trivial
  | _ + 1, _, _, h => ⟨Nat.le_trans h.1 (Nat.le_add_right _ _), h.2⟩
theorem TJ_same {i : Nat} {y z : RV} (h : TJ i y) (e5 : z 5 0 = y 5 0) (e4 : z 4 0 = y 4 0) (e2 : z 2 = y 2) (e1 : z 1 = y 1) (e6 : ∃ g, g < 26 ∧ z 6 0 = nI g) : TJ (i + 1) z := by
  obtain ⟨o, k, s, h1, h2, h3, h4, h5, h6, -, h8⟩ := h
  exact ⟨o, k, s, h1, by rw [e5]; exact h2, by rw [e4]; exact h3, fun j hj => by rw [e2]; exact h4 j hj, h5, by omega, e6, fun hk j hj => by rw [e1]; exact h8 hk j hj⟩
theorem TJ_sign1 {i : Nat} {y : RV} (h : TJ i y) (b : Nat) (hb : b ≤ 1) : TJ (i + 1) (mkT (y 0) (if (300 : Int32) ≤ (y 4 0) then (y 1) else (upd (y 1) (y 4 0).toNatClampNeg (((2 : Int32) * (y 6 0)) + nI b))) (y 2) (y 3 0) ((y 4 0) + (1 : Int32)) (y 5 0) (y 6 0) (1 : Int32)) := by
  obtain ⟨o, k, s, h1, h2, h3, h4, h5, h6, ⟨g, g1, g2⟩, h8⟩ := h
  have h9 : 9 ^ o ≤ 9 ^ 4 := Nat.pow_le_pow_right (by decide) h1
  have h94 : (9 : Nat) ^ 4 = 6561 := rfl
  refine ⟨o, k + 1, s, h1, h2, ?_, h4, mono_add h5, ?_, ⟨g, g1, g2⟩, fun hk j hj => ?_⟩
  · show (y 4 0) + (1 : Int32) = nI (k + 1)
    rw [h3, nI_1]
  · rw [pw_add h5, Nat.one_mul]
    omega
  · have hn : ¬ (300 : Int32) ≤ y 4 0 := by rw [h3]; exact nI_ge (a := k) (b := 300) (by omega) (by decide)
    show vp_in ((if (300 : Int32) ≤ (y 4 0) then (y 1) else (upd (y 1) (y 4 0).toNatClampNeg (((2 : Int32) * (y 6 0)) + nI b))) j / 2) 26
    rw [if_neg hn]
    by_cases hjk : j = k
    · subst hjk
      rw [h3, nI_clamp (by omega)]
      have e : upd (y 1) j (((2 : Int32) * (y 6 0)) + nI b) j = ((2 : Int32) * (y 6 0)) + nI b := by unfold upd; exact if_pos rfl
      rw [e, g2]
      show vp_in ((nI 2 * nI g + nI b) / nI 2) 26
      rw [pk_mul, nI_add, pk_div (by omega) (by decide) (by decide)]
      exact vp_in_nI (by omega) (by decide)
    · rw [h3, nI_clamp (by omega)]
      have e : upd (y 1) k (((2 : Int32) * (y 6 0)) + nI b) j = y 1 j := by unfold upd; exact if_neg hjk
      rw [e]
      exact h8 (by omega) j (by omega)
theorem TJ_sign {i : Nat} {y : RV} {ch : Int32} (h : TJ i y) (hc : ¬ r_X4_readSign y ch = 0) : TJ (i + 1) (w_X4_readSign y ch) := by
  unfold r_X4_readSign at hc
  unfold w_X4_readSign
  by_cases a1 : ch = 43
  · rw [if_pos a1, if_pos a1]
    exact TJ_sign1 h 1 (by decide)
  · rw [if_neg a1] at hc ⊢
    by_cases a2 : ch = 45
    · rw [if_pos a2, if_neg a1]
      exact TJ_sign1 h 0 (by decide)
    · rw [if_neg a2] at hc
      exact absurd rfl hc
theorem TJ_close {i : Nat} {y : RV} {ch : Int32} (h : TJ i y) (hc : ¬ (if ch = (41 : Int32) then (if (y 5 0) ≤ 0 then (0 : Int32) else (if (y 7 0) = (1 : Int32) then (1 : Int32) else (0 : Int32))) else (0 : Int32)) = 0) :
    TJ (i + 1) (if ch = (41 : Int32) then (if (y 5 0) ≤ 0 then y else (if (y 7 0) = (1 : Int32) then (mkT (y 0) (y 1) (y 2) (y 3 0) (y 4 0) (y 5 0) (y 6 0) (3 : Int32)) else y)) else y) := by
  have hg : ∃ g, g < 26 ∧ y 6 0 = nI g := h.choose_spec.choose_spec.choose_spec.2.2.2.2.2.2.1
  by_cases a1 : ch = 41
  · rw [if_pos a1] at hc ⊢
    by_cases a2 : y 5 0 ≤ 0
    · rw [if_pos a2] at hc
      exact absurd rfl hc
    · rw [if_neg a2] at hc ⊢
      by_cases a3 : y 7 0 = 1
      · rw [if_pos a3]
        exact TJ_same h rfl rfl rfl rfl hg
      · rw [if_neg a3] at hc
        exact absurd rfl hc
  · rw [if_neg a1] at hc
    exact absurd rfl hc
theorem TJ_open {i : Nat} {y : RV} (h : TJ i y) (h4' : ¬ (4 : Int32) ≤ y 5 0) : TJ (i + 1) (mkT (y 0) (y 1) (upd (y 2) (y 5 0).toNatClampNeg (y 4 0)) (y 3 0) (y 4 0) ((y 5 0) + (1 : Int32)) (y 6 0) (0 : Int32)) := by
  obtain ⟨o, k, s, h1, h2, h3, h4, h5, h6, h7, h8⟩ := h
  have ho : o < 4 := by
    rw [h2] at h4'
    exact Nat.lt_of_not_le fun q => h4' (nI_le (a := 4) (b := o) q (by omega))
  have hc1 : ∀ j, j < o → (fun j => if j = o then k else s j) j = s j := fun j hj => if_neg (by omega)
  have hc2 : (fun j => if j = o then k else s j) o = k := if_pos rfl
  refine ⟨o + 1, k, fun j => if j = o then k else s j, by omega, ?_, h3, fun j hj => ?_, ?_, ?_, h7, h8⟩
  · show (y 5 0) + (1 : Int32) = nI (o + 1)
    rw [h2, nI_1]
  · show upd (y 2) (y 5 0).toNatClampNeg (y 4 0) j = nI (if j = o then k else s j)
    rw [h2, nI_clamp (by omega)]
    unfold upd
    by_cases hjo : j = o
    · rw [if_pos hjo, if_pos hjo, h3]
    · rw [if_neg hjo, if_neg hjo]
      exact h4 j (by omega)
  · show (fun j => if j = o then k else s j) o ≤ k ∧ mono (fun j => if j = o then k else s j) o ((fun j => if j = o then k else s j) o)
    rw [hc2]
    exact ⟨Nat.le_refl _, mono_congr hc1 h5⟩
  · show (k - (fun j => if j = o then k else s j) o) * 9 ^ (o + 1) + pw (fun j => if j = o then k else s j) o ((fun j => if j = o then k else s j) o) ≤ 6561 * (i + 1)
    rw [hc2, pw_congr hc1, Nat.sub_self, Nat.zero_mul]
    omega
theorem lt_g {ch : Int32} (h1 : ¬ ch < 97) (h2 : ¬ (122 : Int32) < ch) : ∃ g : Nat, g < 26 ∧ ch - 97 = nI g := by
  have e1 : ¬ ch.toInt < 97 := fun h => h1 ((fa_lt' ch 97).mpr h)
  have e2 : ¬ 122 < ch.toInt := fun h => h2 ((fa_lt' 122 ch).mpr h)
  have e3 : ch = nI ch.toInt.toNat := by
    apply Int32.toInt_inj.mp
    rw [nI_toInt (by omega)]
    omega
  refine ⟨ch.toInt.toNat - 97, by omega, ?_⟩
  conv => lhs; rw [e3]
  exact pk_sub (a := ch.toInt.toNat) (b := 97) (by omega)
theorem TJ_item {i : Nat} {y : RV} {ch : Int32} (h : TJ i y) (hc : ¬ r_X4_readItem y ch = 0) : TJ (i + 1) (w_X4_readItem y ch) := by
  unfold r_X4_readItem at hc
  unfold w_X4_readItem
  by_cases a1 : ch < 97
  · rw [if_pos a1] at hc ⊢
    by_cases a3 : ch = 40
    · rw [if_pos a3] at hc ⊢
      by_cases a4 : (4 : Int32) ≤ y 5 0
      · rw [if_pos a4] at hc ⊢
        exact TJ_close h hc
      · rw [if_neg a4]
        exact TJ_open h a4
    · rw [if_neg a3] at hc ⊢
      exact TJ_close h hc
  · rw [if_neg a1] at hc ⊢
    by_cases a2 : (122 : Int32) < ch
    · rw [if_pos a2] at hc ⊢
      by_cases a3 : ch = 40
      · rw [if_pos a3] at hc ⊢
        by_cases a4 : (4 : Int32) ≤ y 5 0
        · rw [if_pos a4] at hc ⊢
          exact TJ_close h hc
        · rw [if_neg a4]
          exact TJ_open h a4
      · rw [if_neg a3] at hc ⊢
        exact TJ_close h hc
    · rw [if_neg a2]
      exact TJ_same h rfl rfl rfl rfl (lt_g a1 a2)
theorem stN_all (P : Int32 → Prop) (f : Nat → Int32) {d k : Nat} (hd : 1 ≤ d) (hdk : d ≤ k) (hf : ∀ j, j < k → P (f j)) : ∀ (n : Nat), k + n ≤ 300 → ∀ j, j < k + n → P (stN f (nI d) k n j)
  | 0, _, j, hj => hf j hj
  | n + 1, hn, j, hj => by
    have ih := stN_all P f hd hdk hf n (by omega)
    show P (upd (stN f (nI d) k n) (k + n) (stN f (nI d) k n (nI (k + n) - nI d).toNatClampNeg) j)
    unfold upd
    by_cases hjk : j = k + n
    · rw [if_pos hjk, pk_sub (by omega), nI_clamp (by omega)]
      exact ih _ (by omega)
    · rw [if_neg hjk]
      exact ih j (by omega)
theorem TJ_digit {i : Nat} {y : RV} {ch : Int32} (h : TJ i y) (hi : i ≤ 80) (hc : ¬ r_X4_readDigit y ch = 0) : TJ (i + 1) (w_X4_readDigit y ch) := by
  unfold r_X4_readDigit at hc
  unfold w_X4_readDigit
  by_cases a1 : ch < 50
  · rw [if_pos a1] at hc
    exact absurd rfl hc
  · rw [if_neg a1] at hc ⊢
    by_cases a2 : (57 : Int32) < ch
    · rw [if_pos a2] at hc
      exact absurd rfl hc
    · rw [if_neg a2] at hc ⊢
      by_cases a3 : (1 : Int32) ≤ y 5 0
      · rw [if_pos a3]
        obtain ⟨t, t1, t2, t3⟩ := dg_t a1 a2
        obtain ⟨o0, k, s, h1, h2, h3, h4, h5, h6, h7, h8⟩ := h
        have ho : 1 ≤ o0 := (nI_leI (a := 1) (b := o0) (by decide) (by omega)).mp (by rw [← h2]; exact a3)
        obtain ⟨o, rfl⟩ : ∃ o, o0 = o + 1 := ⟨o0 - 1, by omega⟩
        have hs : s o ≤ k := h5.1
        have hk : k ≤ 524880 := by have := pw_ge h5; omega
        have e5 : y 5 0 - 1 = nI o := by rw [h2, nI_pred]
        have e2 : y 2 (y 5 0 - 1).toNatClampNeg = nI (s o) := by rw [e5, nI_clamp (by omega)]; exact h4 o (by omega)
        have hmul : (k - s o) * t ≤ 524880 * 9 := Nat.mul_le_mul (by omega) t2
        have hge : k - s o ≤ (k - s o) * t := Nat.le_mul_of_pos_right _ (by omega)
        have hend : (nI (s o) + (y 4 0 - nI (s o)) * nI t : Int32) = nI (s o + (k - s o) * t) := by rw [h3, pk_sub hs, pk_mul, nI_add]
        have hsp : y 4 0 - nI (s o) = nI (k - s o) := by rw [h3]; exact pk_sub hs
        have hkc : (y 4 0).toNatClampNeg = k := by rw [h3]; exact nI_clamp (by omega)
        have hpw : pw s o (s o + (k - s o) * t) ≤ 6561 * (i + 1) := by
          rw [pw_add h5.2]
          have q1 : (k - s o) * t * 9 ^ o ≤ (k - s o) * 9 ^ (o + 1) := by
            rw [Nat.pow_succ, Nat.mul_assoc, Nat.mul_comm (9 ^ o) 9]
            exact Nat.mul_le_mul_left _ (Nat.mul_le_mul_right _ t2)
          have q2 : (k - s o) * 9 ^ (o + 1) + pw s o (s o) ≤ 6561 * i := h6
          omega
        rw [e2, t3]
        have hw : ∀ c9 : Prop, c9 → c9 := fun _ h => h
        by_cases hb : (300 : Int32) < nI (s o + (k - s o) * t)
        · have hR : w_X4_repeatFrom (mkT (y 0) (y 1) (y 2) (y 3 0) (y 4 0) ((y 5 0) - (1 : Int32)) (y 6 0) (y 7 0)) (nI (s o)) (nI t) = mkT (y 0) (y 1) (y 2) (y 3 0) (nI (s o + (k - s o) * t)) ((y 5 0) - (1 : Int32)) (y 6 0) (y 7 0) := by
            unfold w_X4_repeatFrom
            show (if (300 : Int32) < (nI (s o) + (y 4 0 - nI (s o)) * nI t) then mkT (y 0) (y 1) (y 2) (y 3 0) (nI (s o) + (y 4 0 - nI (s o)) * nI t) (y 5 0 - 1) (y 6 0) (y 7 0) else _) = _
            rw [hend]
            exact if_pos hb
          rw [hR]
          refine ⟨o, s o + (k - s o) * t, s, by omega, e5, rfl, fun j hj => h4 j (by omega), mono_add h5.2, hpw, h7, fun hk3 => ?_⟩
          exact absurd hb (nI_nlt (a := 300) (b := s o + (k - s o) * t) hk3 (by decide))
        · have hR : w_X4_repeatFrom (mkT (y 0) (y 1) (y 2) (y 3 0) (y 4 0) ((y 5 0) - (1 : Int32)) (y 6 0) (y 7 0)) (nI (s o)) (nI t) = mkT (y 0) (stN (y 1) (nI (k - s o)) k (s o + (k - s o) * t - k)) (y 2) (y 3 0) (nI (s o + (k - s o) * t)) ((y 5 0) - (1 : Int32)) (y 6 0) (y 7 0) := by
            unfold w_X4_repeatFrom
            show (if (300 : Int32) < (nI (s o) + (y 4 0 - nI (s o)) * nI t) then _ else mkT (y 0) (stN (y 1) (y 4 0 - nI (s o)) (y 4 0).toNatClampNeg ((nI (s o) + (y 4 0 - nI (s o)) * nI t).toNatClampNeg - (y 4 0).toNatClampNeg)) (y 2) (y 3 0) (nI (s o) + (y 4 0 - nI (s o)) * nI t) ((y 5 0) - (1 : Int32)) (y 6 0) (y 7 0)) = _
            rw [hend, hsp, hkc, nI_clamp (by omega)]
            exact if_neg hb
          rw [hR]
          refine ⟨o, s o + (k - s o) * t, s, by omega, e5, rfl, fun j hj => h4 j (by omega), mono_add h5.2, hpw, h7, fun hk3 j hj => ?_⟩
          show vp_in (stN (y 1) (nI (k - s o)) k (s o + (k - s o) * t - k) j / 2) 26
          rcases Nat.eq_zero_or_pos (k - s o) with hz | hz
          · have e0 : s o + (k - s o) * t - k = 0 := by rw [hz, Nat.zero_mul]; omega
            have e1 : (k - s o) * t = 0 := by rw [hz, Nat.zero_mul]
            rw [e0]
            exact h8 (by omega) j (by omega)
          · exact stN_all (fun z => vp_in (z / 2) 26) (y 1) hz (by omega) (h8 (by omega)) _ (by omega) j (by omega)
      · rw [if_neg a3] at hc
        exact absurd rfl hc
theorem TJ_step {i : Nat} {y : RV} {ch : Int32} (h : TJ i y) (hi : i < 80) (hc : ¬ r_X4_readCharacter y ch = 0) : TJ (i + 1) (w_X4_readCharacter y ch) := by
  unfold r_X4_readCharacter at hc
  unfold w_X4_readCharacter
  by_cases a1 : y 7 0 = 2
  · rw [if_pos a1] at hc ⊢
    exact TJ_sign h hc
  · rw [if_neg a1] at hc ⊢
    by_cases a2 : y 7 0 = 3
    · rw [if_pos a2] at hc ⊢
      exact TJ_digit h (by omega) hc
    · rw [if_neg a2] at hc ⊢
      exact TJ_item h hc

abbrev rX4_read : Room := { frames := 3, cells := 0, slots := 0, locals := 67 }
theorem inX4_read_X4 : ∀ w ∈ u_ws RX4 TX4 8, w ∈ wsX4_read := by decide +kernel
set_option maxHeartbeats 4000000 in
set_option maxRecDepth 100000 in
theorem c_X4_read (l : Launch) (D : va_G) (cy : Nat → ClassId) (a : Nat → Nat) (x : RV)  (sz : Nat) (hlen : ∃ n, n ≤ 80 ∧ x 3 0 = nI n) (hg : ∃ g, g < 26 ∧ x 6 0 = nI g) : CI l yX4_read wsX4_read rX4_read D cy [.ref (a 0)] (cT cy a x) sz (r_X4_read x) (cT cy a (w_X4_read x)) 0 0 := by
  refine st_i (ty := .int) (cc := cX4_read) (maxL := 2) (by decide) rfl rfl (Nat.le_of_ble_eq_true rfl) ?_
  intro pp e s m below meth c A Q ls hx hb hts hown hml hlocks hsz hP hK hD hE hA hl hret
  subst hsz
  have hown : s.vm.findClass RX4 = some m.cls := hown
  have hl : lv_has ls 2 [(0, .ref (a 0))] := hl
  obtain ⟨H, hH⟩ : ∃ H, H = s.heap := ⟨_, rfl⟩
  rw [← hH] at hP ⊢
  have hS : va_S A s.heap H [] := by rw [hH]; exact va_S.rf
  obtain ⟨locs, hlo⟩ : ∃ locs : List Loc, locs = [] := ⟨_, rfl⟩
  rw [← hlo] at hS ⊢
  obtain ⟨N, hN, hNx⟩ := hlen
  have hloop : ∀ (k i : Nat) (y : RV), i + k = N → TJ i y → y 0 = x 0 → y 3 0 = nI N → rd (x 0) k i y = (r_X4_read x, w_X4_read x) → ∀ (H : Heap) (locs : List Loc), va_P D vwCl (cT cy a y) H → va_D A (cT cy a y) → va_S A s.heap H locs → ∀ ls : Array Slot, lv_has ls 2 [(0, .ref (a 0)), (1, .int (nI i))] → W pp l e rX4_read s m ([.ref (a 0)] : List Value).toArray below meth c H locs 0 0 Q (F0 m 17 ls []) := by
    intro k
    induction k with
    | zero =>
      intro i y hik hTI hy0 hy3 hres H locs hP hD hS ls hl
      have hiN : i = N := by omega
      refine lv_iload_n hx hb dX4_read_17 rfl (lv_at hl 1 rfl) ?_
      refine lv_aload_n hx hb dX4_read_18 rfl (lv_at hl 0 rfl) ?_
      refine va_get (D := D) (ci := 3) (v := .int (y 3 0)) (C := RX4) (T := TX4) (N := 8) hx hb hts inX4_read_X4 hown hK hP 0 rfl rfl 1 (by decide) (hts _ (List.mem_of_getElem? (i := 4) rfl)) (fun _ h9 => h9) rfl dX4_read_19 ?_
      refine lv_icmp_ge (tgt := 46) hx hb dX4_read_22 (by decide) (fun c_1 => ?_) (fun c_1 => absurd (show (y 3 0) ≤ nI i from by rw [hy3, hiN]; exact Int32.le_refl _) c_1)
      refine lv_aload_n hx hb dX4_read_46 rfl (lv_at hl 0 rfl) ?_
      refine va_get (D := D) (ci := 3) (v := .int (y 5 0)) (C := RX4) (T := TX4) (N := 8) hx hb hts inX4_read_X4 hown hK hP 0 rfl rfl 5 (by decide) (hts _ (List.mem_of_getElem? (i := 2) rfl)) (fun _ h9 => h9) rfl dX4_read_47 ?_
      have J73_3 : ∀ (z_3 : Int32) (hz_3 : z_3 = (if (y 5 0) = 0 then (if (y 7 0) = 0 then (1 : Int32) else (if (y 7 0) = (1 : Int32) then (1 : Int32) else (0 : Int32))) else (0 : Int32))) (H : Heap) (locs : List Loc), va_P D vwCl (cT cy a y) H → va_D A (cT cy a y) → va_S A s.heap H locs → ∀ ls : Array Slot, lv_has ls 2 [(0, .ref (a 0)), (1, .int (nI i))] → W pp l e rX4_read s m ([.ref (a 0)] : List Value).toArray below meth c H locs 0 0 Q (F0 m 73 ls [.int z_3]) := by
        intro z_3 hz_3 H locs hP hD hS ls hl
        subst hz_3
        refine lv_istore_n (lv' := [(1, .int (if (y 5 0) = 0 then (if (y 7 0) = 0 then (1 : Int32) else (if (y 7 0) = (1 : Int32) then (1 : Int32) else (0 : Int32))) else (0 : Int32))), (0, .ref (a 0))]) hx hb dX4_read_73 rfl hl (by decide) rfl (fun ls hl => ?_)
        refine lv_iload_n hx hb dX4_read_74 rfl (lv_at hl 0 rfl) ?_
        have J87_6 : ∀ (z_6 : Int32) (hz_6 : z_6 = (if (if (y 5 0) = 0 then (if (y 7 0) = 0 then (1 : Int32) else (if (y 7 0) = (1 : Int32) then (1 : Int32) else (0 : Int32))) else (0 : Int32)) = 0 then (y 3 0) else (-99999 : Int32))) (H : Heap) (locs : List Loc), va_P D vwCl (cT cy a y) H → va_D A (cT cy a y) → va_S A s.heap H locs → ∀ ls : Array Slot, lv_has ls 2 [(0, .ref (a 0)), (1, .int (if (y 5 0) = 0 then (if (y 7 0) = 0 then (1 : Int32) else (if (y 7 0) = (1 : Int32) then (1 : Int32) else (0 : Int32))) else (0 : Int32)))] → W pp l e rX4_read s m ([.ref (a 0)] : List Value).toArray below meth c H locs 0 0 Q (F0 m 87 ls [.int z_6]) := by
          intro z_6 hz_6 H locs hP hD hS ls hl
          subst hz_6
          have hr9 : rd_end y = (if (if (y 5 0) = 0 then (if (y 7 0) = 0 then (1 : Int32) else (if (y 7 0) = (1 : Int32) then (1 : Int32) else (0 : Int32))) else (0 : Int32)) = 0 then (y 3 0) else (-99999 : Int32)) := rfl
          have hres1 : (rd_end y, y) = (r_X4_read x, w_X4_read x) := hres
          have ha9 := (Prod.mk.inj hres1).1
          have hb9 := (Prod.mk.inj hres1).2
          exact hret _ H locs _ ls (hr9.symm.trans ha9) (by rw [← hb9]; exact hP) (by rw [← hb9]; exact hD) hS dX4_read_87
        refine lv_if_eq (tgt := 83) hx hb dX4_read_75 (by decide) (fun c_5 => ?_) (fun c_5 => ?_)
        · refine lv_aload_n hx hb dX4_read_83 rfl (lv_at hl 1 rfl) ?_
          refine va_get (D := D) (ci := 3) (v := .int (y 3 0)) (C := RX4) (T := TX4) (N := 8) hx hb hts inX4_read_X4 hown hK hP 0 rfl rfl 1 (by decide) (hts _ (List.mem_of_getElem? (i := 4) rfl)) (fun _ h9 => h9) rfl dX4_read_84 ?_
          exact J87_6 (y 3 0) (by simp only [if_pos c_5, if_true, if_false]) H locs hP hD hS ls (lv_sub hl [1, 0] rfl)
        · refine lv_ldc (v := (-99999)) hx hb hown (hts _ (List.mem_of_getElem? (i := 6) rfl)) dX4_read_78 ?_
          refine lv_goto (tgt := 87) hx hb dX4_read_80 (by decide) ?_
          exact J87_6 (-99999 : Int32) (by simp only [if_neg c_5, if_true, if_false]) H locs hP hD hS ls (lv_sub hl [1, 0] rfl)
      refine lv_if_ne (tgt := 72) hx hb dX4_read_50 (by decide) (fun c_2 => ?_) (fun c_2 => ?_)
      · refine lv_iconst (v := 0) hx hb dX4_read_72 (by decide) ?_
        exact J73_3 (0 : Int32) (by simp only [if_neg c_2, if_true, if_false]) H locs hP hD hS ls (lv_sub hl [0, 1] rfl)
      · refine lv_aload_n hx hb dX4_read_53 rfl (lv_at hl 0 rfl) ?_
        refine va_get (D := D) (ci := 3) (v := .int (y 7 0)) (C := RX4) (T := TX4) (N := 8) hx hb hts inX4_read_X4 hown hK hP 0 rfl rfl 7 (by decide) (hts _ (List.mem_of_getElem? (i := 3) rfl)) (fun _ h9 => h9) rfl dX4_read_54 ?_
        refine lv_if_eq (tgt := 68) hx hb dX4_read_57 (by decide) (fun c_8 => ?_) (fun c_8 => ?_)
        · refine lv_iconst (v := 1) hx hb dX4_read_68 (by decide) ?_
          refine lv_goto (tgt := 73) hx hb dX4_read_69 (by decide) ?_
          exact J73_3 (1 : Int32) (by simp only [if_pos c_2, if_pos c_8, if_true, if_false]) H locs hP hD hS ls (lv_sub hl [0, 1] rfl)
        · refine lv_aload_n hx hb dX4_read_60 rfl (lv_at hl 0 rfl) ?_
          refine va_get (D := D) (ci := 3) (v := .int (y 7 0)) (C := RX4) (T := TX4) (N := 8) hx hb hts inX4_read_X4 hown hK hP 0 rfl rfl 7 (by decide) (hts _ (List.mem_of_getElem? (i := 3) rfl)) (fun _ h9 => h9) rfl dX4_read_61 ?_
          refine lv_iconst (v := 1) hx hb dX4_read_64 (by decide) ?_
          refine lv_icmp_ne (tgt := 72) hx hb dX4_read_65 (by decide) (fun c_9 => ?_) (fun c_9 => ?_)
          · refine lv_iconst (v := 0) hx hb dX4_read_72 (by decide) ?_
            exact J73_3 (0 : Int32) (by simp only [if_pos c_2, if_neg c_8, if_neg c_9, if_true, if_false]) H locs hP hD hS ls (lv_sub hl [0, 1] rfl)
          · refine lv_iconst (v := 1) hx hb dX4_read_68 (by decide) ?_
            refine lv_goto (tgt := 73) hx hb dX4_read_69 (by decide) ?_
            exact J73_3 (1 : Int32) (by simp only [if_pos c_2, if_neg c_8, if_pos c_9, if_true, if_false]) H locs hP hD hS ls (lv_sub hl [0, 1] rfl)
    | succ k ih =>
      intro i y hik hTI hy0 hy3 hres H locs hP hD hS ls hl
      refine lv_iload_n hx hb dX4_read_17 rfl (lv_at hl 1 rfl) ?_
      refine lv_aload_n hx hb dX4_read_18 rfl (lv_at hl 0 rfl) ?_
      refine va_get (D := D) (ci := 3) (v := .int (y 3 0)) (C := RX4) (T := TX4) (N := 8) hx hb hts inX4_read_X4 hown hK hP 0 rfl rfl 1 (by decide) (hts _ (List.mem_of_getElem? (i := 4) rfl)) (fun _ h9 => h9) rfl dX4_read_19 ?_
      refine lv_icmp_ge (tgt := 46) hx hb dX4_read_22 (by decide) (fun c_10 => absurd c_10 (show ¬ (y 3 0) ≤ nI i from by rw [hy3]; exact nI_ge (by omega) (by omega))) (fun c_10 => ?_)
      refine lv_aload_n hx hb dX4_read_25 rfl (lv_at hl 0 rfl) ?_
      refine lv_aload_n hx hb dX4_read_26 rfl (lv_at hl 0 rfl) ?_
      refine va_get (D := D) (ci := 3) (v := .ref (a 1)) (C := RX4) (T := TX4) (N := 8) hx hb hts inX4_read_X4 hown hK hP 0 rfl rfl 0 (by decide) (hts _ (List.mem_of_getElem? (i := 5) rfl)) (fun _ h9 => h9) rfl dX4_read_27 ?_
      refine lv_iload_n hx hb dX4_read_30 rfl (lv_at hl 1 rfl) ?_
      refine x_iald (f := (y 0)) (j := i) hx hb hK hP 1 0 rfl rfl (nI_clamp (by omega)) (vp_in_nI (by omega) (by decide)) dX4_read_31 ?_
      refine cl_i (va_runV (As := [.int ((y 0) i)]) (rest := []) ⟨hx, hb, hml, hown, hts⟩ (c_X4_readCharacterJ l D cy a y ((y 0) i) H.size (⟨i, by omega, hTI⟩)) (cwV 1 hts gX4_read_X4_readCharacter rfl rfl rfl (by decide +kernel) ⟨Nat.le_of_ble_eq_true rfl, Nat.le_of_ble_eq_true rfl⟩) ⟨blU, va_recv hK hP (ci := 3) (q0 := 0) rfl rfl, preU hP hD (pmI _) hK hE hS hA⟩ rfl rfl hl.1 rfl (lv_room (Nat.le_of_ble_eq_true rfl)) dX4_read_32 ⟨Nat.le_of_ble_eq_true rfl, Nat.le_of_ble_eq_true rfl⟩) hP hD (pmI _) hS hA (fun H locs hP hD hS => ?_)
      have hP : va_P D vwCl (cT cy a (w_X4_readCharacter y ((y 0) i))) H := vP_perm hP (pmI _).symm
      have hD : va_D A (cT cy a (w_X4_readCharacter y ((y 0) i))) := vD_perm hD (pmI _).symm
      refine lv_if_ne (tgt := 40) hx hb dX4_read_35 (by decide) (fun c_11 => ?_) (fun c_11 => ?_)
      · refine lv_iinc (v := (nI (i + 1))) (lv' := [(1, .int (nI (i + 1))), (0, .ref (a 0))]) hx hb dX4_read_40 hl (k := 1) rfl (nI_1 i) (by decide) rfl (fun ls hl => ?_)
        refine lv_goto (tgt := 17) hx hb dX4_read_43 (by decide) ?_
        have hres1 : rd (x 0) k (i + 1) (w_X4_readCharacter y ((y 0) i)) = (r_X4_read x, w_X4_read x) := by rw [← hres, hy0]; exact (if_neg (by rw [← hy0]; exact c_11)).symm
        exact ih (i + 1) (w_X4_readCharacter y ((y 0) i)) (by omega) (TJ_step hTI (by omega) c_11) ((rc_row0 y _).trans hy0) ((rc_len y _).trans hy3) hres1 H locs hP hD hS ls (lv_sub hl [1, 0] rfl)
      · refine lv_iload_n hx hb dX4_read_38 rfl (lv_at hl 1 rfl) ?_
        have hres1 : (nI i, (w_X4_readCharacter y ((y 0) i))) = (r_X4_read x, w_X4_read x) := by rw [← hres, hy0]; exact (if_pos (by rw [← hy0]; exact c_11)).symm
        have ha9 := (Prod.mk.inj hres1).1
        have hb9 := (Prod.mk.inj hres1).2
        exact hret _ H locs _ ls ha9 (by rw [← hb9]; exact hP) (by rw [← hb9]; exact hD) hS dX4_read_39
  refine lv_aload_n hx hb dX4_read_0 rfl (lv_at hl 0 rfl) ?_
  refine lv_iconst (v := 0) hx hb dX4_read_1 (by decide) ?_
  refine va_put (D := D) (ci := 3) (v := .int (0 : Int32)) (ty := .int) (C := RX4) (T := TX4) (N := 8) hx hb hts inX4_read_X4 tyX4 tyX4_ok nmX4 hown hK hP hD hS 0 rfl rfl 3 (by decide) (hts _ (List.mem_of_getElem? (i := 1) rfl)) (fun _ h9 => h9) rfl (by decide +kernel) rfl rfl (Nat.le_of_ble_eq_true rfl) dX4_read_2 (fun H locs hP hD hS => ?_)
  have hP : va_P D vwCl (cT cy a (mkT (x 0) (x 1) (x 2) (x 3 0) (0 : Int32) (x 5 0) (x 6 0) (x 7 0))) H := hP
  have hD : va_D A (cT cy a (mkT (x 0) (x 1) (x 2) (x 3 0) (0 : Int32) (x 5 0) (x 6 0) (x 7 0))) := hD
  refine lv_aload_n hx hb dX4_read_5 rfl (lv_at hl 0 rfl) ?_
  refine lv_iconst (v := 0) hx hb dX4_read_6 (by decide) ?_
  refine va_put (D := D) (ci := 3) (v := .int (0 : Int32)) (ty := .int) (C := RX4) (T := TX4) (N := 8) hx hb hts inX4_read_X4 tyX4 tyX4_ok nmX4 hown hK hP hD hS 0 rfl rfl 5 (by decide) (hts _ (List.mem_of_getElem? (i := 2) rfl)) (fun _ h9 => h9) rfl (by decide +kernel) rfl rfl (Nat.le_of_ble_eq_true rfl) dX4_read_7 (fun H locs hP hD hS => ?_)
  have hP : va_P D vwCl (cT cy a (mkT (x 0) (x 1) (x 2) (x 3 0) (0 : Int32) (0 : Int32) (x 6 0) (x 7 0))) H := hP
  have hD : va_D A (cT cy a (mkT (x 0) (x 1) (x 2) (x 3 0) (0 : Int32) (0 : Int32) (x 6 0) (x 7 0))) := hD
  refine lv_aload_n hx hb dX4_read_10 rfl (lv_at hl 0 rfl) ?_
  refine lv_iconst (v := 0) hx hb dX4_read_11 (by decide) ?_
  refine va_put (D := D) (ci := 3) (v := .int (0 : Int32)) (ty := .int) (C := RX4) (T := TX4) (N := 8) hx hb hts inX4_read_X4 tyX4 tyX4_ok nmX4 hown hK hP hD hS 0 rfl rfl 7 (by decide) (hts _ (List.mem_of_getElem? (i := 3) rfl)) (fun _ h9 => h9) rfl (by decide +kernel) rfl rfl (Nat.le_of_ble_eq_true rfl) dX4_read_12 (fun H locs hP hD hS => ?_)
  have hP : va_P D vwCl (cT cy a (mkT (x 0) (x 1) (x 2) (x 3 0) (0 : Int32) (0 : Int32) (x 6 0) (0 : Int32))) H := hP
  have hD : va_D A (cT cy a (mkT (x 0) (x 1) (x 2) (x 3 0) (0 : Int32) (0 : Int32) (x 6 0) (0 : Int32))) := hD
  refine lv_iconst (v := 0) hx hb dX4_read_15 (by decide) ?_
  refine lv_istore_n (lv' := [(1, .int (0 : Int32)), (0, .ref (a 0))]) hx hb dX4_read_16 rfl hl (by decide) rfl (fun ls hl => ?_)
  exact hloop N 0 (rd0 x) (by omega) (TJ_start x hg) rfl hNx (by show rd (x 0) N 0 (rd0 x) = (rdx x); unfold rdx; rw [hNx, nI_clamp (by omega)]) H locs hP hD hS ls (lv_sub hl [1, 0] rfl)

def r_X4_isPlayable (x : RV)  : Int32 := (if (r_X4_read x) = (-99999 : Int32) then (if (300 : Int32) < ((w_X4_read x) 4 0) then (0 : Int32) else (1 : Int32)) else (0 : Int32))
def w_X4_isPlayable (x : RV)  : RV := (w_X4_read x)
abbrev rX4_isPlayable : Room := { frames := 4, cells := 0, slots := 0, locals := 88 }
theorem inX4_isPlayable_X4 : ∀ w ∈ u_ws RX4 TX4 8, w ∈ wsX4_isPlayable := by decide +kernel
theorem zn_X4_isPlayable (x : RV)  : narrow .boolean (.int (r_X4_isPlayable x)) = .int (r_X4_isPlayable x) := by
  unfold r_X4_isPlayable
  repeat' split
  all_goals rfl
set_option maxHeartbeats 4000000 in
set_option maxRecDepth 100000 in
theorem c_X4_isPlayable (l : Launch) (D : va_G) (cy : Nat → ClassId) (a : Nat → Nat) (x : RV)  (sz : Nat) (hlen : ∃ n, n ≤ 80 ∧ x 3 0 = nI n) (hg : ∃ g, g < 26 ∧ x 6 0 = nI g) : CI l yX4_isPlayable wsX4_isPlayable rX4_isPlayable D cy [.ref (a 0)] (cT cy a x) sz (r_X4_isPlayable x) (cT cy a (w_X4_isPlayable x)) 0 0 := by
  refine st_i (ty := .boolean) (cc := cX4_isPlayable) (maxL := 1) (by decide) rfl (zn_X4_isPlayable x) (Nat.le_of_ble_eq_true rfl) ?_
  intro pp e s m below meth c A Q ls hx hb hts hown hml hlocks hsz hP hK hD hE hA hl hret
  subst hsz
  have hown : s.vm.findClass RX4 = some m.cls := hown
  have hl : lv_has ls 1 [(0, .ref (a 0))] := hl
  obtain ⟨H, hH⟩ : ∃ H, H = s.heap := ⟨_, rfl⟩
  rw [← hH] at hP ⊢
  have hS : va_S A s.heap H [] := by rw [hH]; exact va_S.rf
  obtain ⟨locs, hlo⟩ : ∃ locs : List Loc, locs = [] := ⟨_, rfl⟩
  rw [← hlo] at hS ⊢
  refine lv_aload_n hx hb dX4_isPlayable_0 rfl (lv_at hl 0 rfl) ?_
  refine cl_i (va_runV (As := []) (rest := []) ⟨hx, hb, hml, hown, hts⟩ (c_X4_read l D cy a x H.size hlen hg) (cwV 0 hts gX4_isPlayable_X4_read rfl rfl rfl (by decide +kernel) ⟨Nat.le_of_ble_eq_true rfl, Nat.le_of_ble_eq_true rfl⟩) ⟨blU, va_recv hK hP (ci := 3) (q0 := 0) rfl rfl, preU hP hD (pmI _) hK hE hS hA⟩ rfl rfl hl.1 rfl (lv_room (Nat.le_of_ble_eq_true rfl)) dX4_isPlayable_1 ⟨Nat.le_of_ble_eq_true rfl, Nat.le_of_ble_eq_true rfl⟩) hP hD (pmI _) hS hA (fun H locs hP hD hS => ?_)
  have hP : va_P D vwCl (cT cy a (w_X4_read x)) H := vP_perm hP (pmI _).symm
  have hD : va_D A (cT cy a (w_X4_read x)) := vD_perm hD (pmI _).symm
  refine lv_ldc (v := (-99999)) hx hb hown (hts _ (List.mem_of_getElem? (i := 1) rfl)) dX4_isPlayable_4 ?_
  have J24_2 : ∀ (z_2 : Int32) (hz_2 : z_2 = (if (r_X4_read x) = (-99999 : Int32) then (if (300 : Int32) < ((w_X4_read x) 4 0) then (0 : Int32) else (1 : Int32)) else (0 : Int32))) (H : Heap) (locs : List Loc), va_P D vwCl (cT cy a (w_X4_read x)) H → va_D A (cT cy a (w_X4_read x)) → va_S A s.heap H locs → ∀ ls : Array Slot, lv_has ls 1 [(0, .ref (a 0))] → W pp l e rX4_isPlayable s m ([.ref (a 0)] : List Value).toArray below meth c H locs 0 0 Q (F0 m 24 ls [.int z_2]) := by
    intro z_2 hz_2 H locs hP hD hS ls hl
    subst hz_2
    have hr9 : (if (r_X4_read x) = (-99999 : Int32) then (if (300 : Int32) < ((w_X4_read x) 4 0) then (0 : Int32) else (1 : Int32)) else (0 : Int32)) = (r_X4_isPlayable x) := by rfl
    have hw9 : (w_X4_isPlayable x) = (w_X4_read x) := by rfl
    exact hret _ H locs _ ls hr9 (by rw [hw9]; exact hP) (by rw [hw9]; exact hD) hS dX4_isPlayable_24
  refine lv_icmp_ne (tgt := 23) hx hb dX4_isPlayable_6 (by decide) (fun c_1 => ?_) (fun c_1 => ?_)
  · refine lv_iconst (v := 0) hx hb dX4_isPlayable_23 (by decide) ?_
    exact J24_2 (0 : Int32) (by simp only [if_neg c_1, if_true, if_false]) H locs hP hD hS ls (lv_sub hl [0] rfl)
  · refine lv_aload_n hx hb dX4_isPlayable_9 rfl (lv_at hl 0 rfl) ?_
    refine va_get (D := D) (ci := 3) (v := .int ((w_X4_read x) 4 0)) (C := RX4) (T := TX4) (N := 8) hx hb hts inX4_isPlayable_X4 hown hK hP 0 rfl rfl 3 (by decide) (hts _ (List.mem_of_getElem? (i := 2) rfl)) (fun _ h9 => h9) rfl dX4_isPlayable_10 ?_
    refine lv_sipush (v := 300) hx hb dX4_isPlayable_13 (by decide) ?_
    refine lv_icmp_gt (tgt := 23) hx hb dX4_isPlayable_16 (by decide) (fun c_4 => ?_) (fun c_4 => ?_)
    · refine lv_iconst (v := 0) hx hb dX4_isPlayable_23 (by decide) ?_
      exact J24_2 (0 : Int32) (by simp only [if_pos c_1, if_pos c_4, if_true, if_false]) H locs hP hD hS ls (lv_sub hl [0] rfl)
    · refine lv_iconst (v := 1) hx hb dX4_isPlayable_19 (by decide) ?_
      refine lv_goto (tgt := 24) hx hb dX4_isPlayable_20 (by decide) ?_
      exact J24_2 (1 : Int32) (by simp only [if_pos c_1, if_neg c_4, if_true, if_false]) H locs hP hD hS ls (lv_sub hl [0] rfl)

