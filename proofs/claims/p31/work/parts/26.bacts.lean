/-! ===== BranchNotes: what changes it ===== -/
theorem rd_TJ (c : Nat → Int32) : ∀ (n i : Nat) (y : RV), TJ i y → i + n ≤ 80 → (rd c n i y).1 = -99999 → ∃ j, j ≤ 80 ∧ TJ j (rd c n i y).2
  | 0, i, y, h, hn, _ => ⟨i, by omega, h⟩
  | n + 1, i, y, h, hn, hr => by
    have e : rd c (n + 1) i y = if r_X4_readCharacter y (c i) = 0 then (nI i, w_X4_readCharacter y (c i)) else rd c n (i + 1) (w_X4_readCharacter y (c i)) := rfl
    rw [e] at hr ⊢
    by_cases hc : r_X4_readCharacter y (c i) = 0
    · rw [if_pos hc] at hr
      have h1 : nI i = -99999 := hr
      have h2 : ¬ nI i < 0 := nI_pos (by omega)
      rw [h1] at h2
      exact absurd (by decide) h2
    · rw [if_neg hc] at hr ⊢
      exact rd_TJ c n (i + 1) _ (TJ_step h (by omega) hc) (by omega) hr
theorem stepok_of {x : RV} (hlen : ∃ n, n ≤ 80 ∧ x 3 0 = nI n) (hg : ∃ g, g < 26 ∧ x 6 0 = nI g) (h : ¬ r_X4_isPlayable x = 0) : stepok (w_X4_isPlayable x) := by
  obtain ⟨N, hN, hNx⟩ := hlen
  unfold r_X4_isPlayable at h
  split at h
  · rename_i h1
    split at h
    · exact absurd rfl h
    · rename_i h2
      have h3 : (rd (x 0) (x 3 0).toNatClampNeg 0 (rd0 x)).1 = -99999 := h1
      obtain ⟨j, hj80, hj⟩ := rd_TJ (x 0) (x 3 0).toNatClampNeg 0 (rd0 x) (TJ_start x hg) (by rw [hNx, nI_clamp (by omega)]; omega) h3
      obtain ⟨o, k, s, a1, a2, a3, a4, a5, a6, a7, a8⟩ := hj
      have e : (w_X4_read x) 4 0 = nI k := a3
      have hk0 : k ≤ 524880 := by have := pw_ge a5; omega
      have hk : k ≤ 300 := by
        refine Nat.le_of_not_lt fun hlt => h2 ?_
        rw [e]
        refine (fa_lt' 300 (nI k)).mpr ?_
        rw [nI_toInt (by omega)]
        show (300 : Int) < k
        omega
      intro q hq
      have hq2 : q < k := by
        unfold stepsOf at hq
        have e2 : (w_X4_isPlayable x) 4 0 = nI k := a3
        rw [e2] at hq
        rw [nI_clamp (by omega)] at hq
        omega
      exact a8 hk q hq2
  · exact absurd rfl h

theorem rc_letter {y : RV} (h : ∃ g, g < 26 ∧ y 6 0 = nI g) (ch : Int32) : ∃ g, g < 26 ∧ w_X4_readCharacter y ch 6 0 = nI g := by
  unfold w_X4_readCharacter w_X4_readSign w_X4_readDigit w_X4_readItem w_X4_repeatFrom
  repeat' split
  all_goals first
    | exact h
    | exact lt_g (by assumption) (by assumption)
theorem rd_tok (c : Nat → Int32) : ∀ (n i : Nat) (y : RV), (∃ g, g < 26 ∧ y 6 0 = nI g) → (rd c n i y).2 3 0 = y 3 0 ∧ ∃ g, g < 26 ∧ (rd c n i y).2 6 0 = nI g
  | 0, i, y, h => ⟨rfl, h⟩
  | n + 1, i, y, h => by
    have e : rd c (n + 1) i y = if r_X4_readCharacter y (c i) = 0 then (nI i, w_X4_readCharacter y (c i)) else rd c n (i + 1) (w_X4_readCharacter y (c i)) := rfl
    rw [e]
    split
    · exact ⟨rc_len y _, rc_letter h _⟩
    · have ih := rd_tok c n (i + 1) _ (rc_letter h (c i))
      exact ⟨ih.1.trans (rc_len y _), ih.2⟩
theorem read_tok {x : RV} (h : Tok x) : Tok (w_X4_read x) := by
  obtain ⟨⟨n, h1, h2⟩, hg⟩ := h
  have := rd_tok (x 0) (x 3 0).toNatClampNeg 0 (rd0 x) hg
  exact ⟨⟨n, h1, this.1.trans h2⟩, this.2⟩

def o_X5_setDesk (V : BV) (d : Int32) (what : Int32) (val2 : Int32) : Int32 × Int32 := (if (o_X5_checkDesk d) = 0 then (if d = 0 then (if (r_X5_isDeskSetting what val2) = 0 then ((-9999002 : Int32), (0 : Int32)) else ((0 : Int32), ((V.2.1.2.1 0) what.toNatClampNeg))) else (if (r_X5_isDeskSetting what val2) = 0 then ((-9999002 : Int32), (0 : Int32)) else ((0 : Int32), ((V.2.1.2.2 0) what.toNatClampNeg)))) else ((o_X5_checkDesk d), (0 : Int32)))
def w_X5_setDesk (V : BV) (d : Int32) (what : Int32) (val2 : Int32) : BV := (if (o_X5_checkDesk d) = 0 then (if d = 0 then (if (r_X5_isDeskSetting what val2) = 0 then V else (V.1, (w_X3_changeDesk V.2.1 (0 : Int32) what val2), V.2.2.1, V.2.2.2.1, V.2.2.2.2.1, (hrem V.2.2.2.2.2.1 V.2.1), V.2.2.2.2.2.2)) else (if (r_X5_isDeskSetting what val2) = 0 then V else (V.1, (w_X3_changeDesk V.2.1 (1 : Int32) what val2), V.2.2.1, V.2.2.2.1, V.2.2.2.2.1, (hrem V.2.2.2.2.2.1 V.2.1), V.2.2.2.2.2.2))) else V)
abbrev rX5_setDesk : Room := { frames := 7, cells := 2, slots := 12, locals := 124 }
theorem inX5_setDesk_X0 : ∀ w ∈ u_ws RX0 TX0 8, w ∈ wsX5_setDesk := by decide +kernel
theorem inX5_setDesk_X3 : ∀ w ∈ u_ws RX3 TX3 11, w ∈ wsX5_setDesk := by decide +kernel
theorem inX5_setDesk_X5 : ∀ w ∈ u_ws RX5 TX5 6, w ∈ wsX5_setDesk := by decide +kernel
set_option maxHeartbeats 4000000 in
set_option maxRecDepth 100000 in
theorem c_X5_setDesk (l : Launch) (hlt : l.stackTraces = false) (D : va_G) (cy : Nat → ClassId) (ad : AD) (V : BV) (d : Int32) (what : Int32) (val2 : Int32) (sz : Nat) (hho : hok V.2.2.2.2.2.1) : CX l yX5_setDesk wsX5_setDesk rX5_setDesk D cy [.ref (ad 0 0 0), .int d, .int what, .int val2] (wB cy ad V) sz (o_X5_setDesk V d what val2) (wB cy ad (w_X5_setDesk V d what val2)) 2 12 := by
  refine stx_i (ty := .int) (cc := cX5_setDesk) (maxL := 5) (by decide) rfl rfl (Nat.le_of_ble_eq_true rfl) ?_
  intro pp e s m below meth c A Q ls hx hb hts hown hml hlocks htab hsz hP hK hD hE hA hl hAe hQ hret hout
  subst hsz
  have hown : s.vm.findClass RX5 = some m.cls := hown
  have hl : lv_has ls 5 [(0, .ref (ad 0 0 0)), (1, .int d), (2, .int what), (3, .int val2)] := hl
  obtain ⟨H, hH⟩ : ∃ H, H = s.heap := ⟨_, rfl⟩
  rw [← hH] at hP ⊢
  have hS : va_S A s.heap H [] := by rw [hH]; exact va_S.rf
  obtain ⟨locs, hlo⟩ : ∃ locs : List Loc, locs = [] := ⟨_, rfl⟩
  rw [← hlo] at hS ⊢
  refine lv_iload_n hx hb dX5_setDesk_0 rfl (lv_at hl 1 rfl) ?_
  refine clx_n (vx_runS (As := [.int d]) (rest := []) ⟨hx, hb, hml, hown, hts⟩ (c_X5_checkDesk l hlt D cy d H.size) (va_cwS 1 hts gX5_setDesk_X5_checkDesk rfl rfl rfl (by decide +kernel) ⟨Nat.le_of_ble_eq_true rfl, Nat.le_of_ble_eq_true rfl⟩) ⟨blU, preU hP hD (List.Perm.refl _) hK hE hS hA⟩ rfl rfl hl.1 rfl (lv_room (Nat.le_of_ble_eq_true rfl)) dX5_setDesk_1 ⟨Nat.le_of_ble_eq_true rfl, Nat.le_of_ble_eq_true rfl⟩) hP hD (List.Perm.refl _) hS hA (fun c_1 q9 ce H locs hq hv hcl hP hD hS => ?_) (fun c_1 H locs hP hD hS => ?_)
  · have hP : va_P D vwCl (wB cy ad V) H := vP_perm hP (List.Perm.refl _)
    have hD : va_D A (wB cy ad V) := vD_perm hD (List.Perm.refl _)
    have ho9 : (o_X5_setDesk V d what val2).1 = (o_X5_checkDesk d) := by unfold o_X5_setDesk; simp only [if_neg c_1, if_true, if_false]
    have hw9 : (w_X5_setDesk V d what val2) = V := by unfold w_X5_setDesk; simp only [if_neg c_1, if_true, if_false]
    exact vx_widen (k := 2) (n := 12) (Nat.le_of_ble_eq_true rfl) (Nat.le_of_ble_eq_true rfl) (hout _ q9 ce H locs _ ls _ ho9 c_1 hq hv hcl (by rw [hw9]; exact hP) (by rw [hw9]; exact hD) hS)
  · have hP : va_P D vwCl (wB cy ad V) H := vP_perm hP (List.Perm.refl _)
    have hD : va_D A (wB cy ad V) := vD_perm hD (List.Perm.refl _)
    have hd := (ckDesk_of c_1)
    rcases hd with hd | hd
    · subst hd
      have hd0 : (0 : Int32) = 0 := by decide
      have hl : lv_has ls 5 [(0, .ref (ad 0 0 0)), (1, .int (0 : Int32)), (2, .int what), (3, .int val2)] := hl
      refine lv_iload_n hx hb dX5_setDesk_4 rfl (lv_at hl 2 rfl) ?_
      refine lv_iload_n hx hb dX5_setDesk_5 rfl (lv_at hl 3 rfl) ?_
      refine cl_i (va_runS (As := [.int what, .int val2]) (rest := []) ⟨hx, hb, hml, hown, hts⟩ (c_X5_isDeskSetting l D cy what val2 H.size) (va_cwS 2 hts gX5_setDesk_X5_isDeskSetting rfl rfl rfl (by decide +kernel) ⟨Nat.le_of_ble_eq_true rfl, Nat.le_of_ble_eq_true rfl⟩) ⟨blU, preU hP hD (List.Perm.refl _) hK hE hS hA⟩ rfl rfl hl.1 rfl (lv_room (Nat.le_of_ble_eq_true rfl)) dX5_setDesk_6 ⟨Nat.le_of_ble_eq_true rfl, Nat.le_of_ble_eq_true rfl⟩) hP hD (List.Perm.refl _) hS hA (fun H locs hP hD hS => ?_)
      have hP : va_P D vwCl (wB cy ad V) H := hP
      have hD : va_D A (wB cy ad V) := hD
      refine lv_if_ne (tgt := 22) hx hb dX5_setDesk_9 (by decide) (fun c_2 => ?_) (fun c_2 => ?_)
      · refine lv_aload_n hx hb dX5_setDesk_22 rfl (lv_at hl 0 rfl) ?_
        refine va_get (D := D) (ci := 4) (v := .ref (ad 0 2 0)) (C := RX5) (T := TX5) (N := 6) hx hb hts inX5_setDesk_X5 hown hK hP 0 rfl rfl 3 (by decide) (hts _ (List.mem_of_getElem? (i := 3) rfl)) (fun _ h9 => h9) rfl dX5_setDesk_23 ?_
        refine lv_aload_n hx hb dX5_setDesk_26 rfl (lv_at hl 0 rfl) ?_
        refine va_get (D := D) (ci := 4) (v := .ref (ad 1 0 0)) (C := RX5) (T := TX5) (N := 6) hx hb hts inX5_setDesk_X5 hown hK hP 0 rfl rfl 1 (by decide) (hts _ (List.mem_of_getElem? (i := 4) rfl)) (fun _ h9 => h9) rfl dX5_setDesk_27 ?_
        refine cl_n (va_runV (As := [.ref (ad 1 0 0)]) (rest := []) ⟨hx, hb, hml, hown, hts⟩ (c_X1_remember l D cy (ad 0 2) (fun i => ad (i + 5)) (ad 1) V.2.2.2.2.2.1 V.2.1 H.size hho) (cwV 1 hts gX5_setDesk_X1_remember rfl rfl rfl (by decide +kernel) ⟨Nat.le_of_ble_eq_true rfl, Nat.le_of_ble_eq_true rfl⟩) ⟨blU, va_recv hK (vP_perm hP (pmB2 (bB cy ad V) 6 2 _ _ (cH cy (ad 0 2) (fun i => ad (i + 5)) (hrem V.2.2.2.2.2.1 V.2.1)) (cS cy (ad 1) V.2.1) rfl rfl).1) (ci := 1) (q0 := 0) rfl rfl, preU hP hD (pmB2 (bB cy ad V) 6 2 _ _ (cH cy (ad 0 2) (fun i => ad (i + 5)) (hrem V.2.2.2.2.2.1 V.2.1)) (cS cy (ad 1) V.2.1) rfl rfl).1 hK hE hS hA⟩ rfl rfl hl.1 rfl (lv_room (Nat.le_of_ble_eq_true rfl)) dX5_setDesk_30 ⟨Nat.le_of_ble_eq_true rfl, Nat.le_of_ble_eq_true rfl⟩) hP hD (pmB2 (bB cy ad V) 6 2 _ _ (cH cy (ad 0 2) (fun i => ad (i + 5)) (hrem V.2.2.2.2.2.1 V.2.1)) (cS cy (ad 1) V.2.1) rfl rfl).1 hS hA (fun H locs hP hD hS => ?_)
        have hP : va_P D vwCl (wB cy ad (V.1, V.2.1, V.2.2.1, V.2.2.2.1, V.2.2.2.2.1, (hrem V.2.2.2.2.2.1 V.2.1), V.2.2.2.2.2.2)) H := vP_perm hP ((pmB2 (bB cy ad V) 6 2 _ _ (cH cy (ad 0 2) (fun i => ad (i + 5)) (hrem V.2.2.2.2.2.1 V.2.1)) (cS cy (ad 1) V.2.1) rfl rfl).2.trans (pmB (bB cy ad (V.1, V.2.1, V.2.2.1, V.2.2.2.1, V.2.2.2.2.1, (hrem V.2.2.2.2.2.1 V.2.1), V.2.2.2.2.2.2)) 6 _ (cH cy (ad 0 2) (fun i => ad (i + 5)) (hrem V.2.2.2.2.2.1 V.2.1)) rfl).1.symm)
        have hD : va_D A (wB cy ad (V.1, V.2.1, V.2.2.1, V.2.2.2.1, V.2.2.2.2.1, (hrem V.2.2.2.2.2.1 V.2.1), V.2.2.2.2.2.2)) := vD_perm hD ((pmB2 (bB cy ad V) 6 2 _ _ (cH cy (ad 0 2) (fun i => ad (i + 5)) (hrem V.2.2.2.2.2.1 V.2.1)) (cS cy (ad 1) V.2.1) rfl rfl).2.trans (pmB (bB cy ad (V.1, V.2.1, V.2.2.1, V.2.2.2.1, V.2.2.2.2.1, (hrem V.2.2.2.2.2.1 V.2.1), V.2.2.2.2.2.2)) 6 _ (cH cy (ad 0 2) (fun i => ad (i + 5)) (hrem V.2.2.2.2.2.1 V.2.1)) rfl).1.symm)
        refine lv_aload_n hx hb dX5_setDesk_33 rfl (lv_at hl 0 rfl) ?_
        refine va_get (D := D) (ci := 4) (v := .ref (ad 1 0 0)) (C := RX5) (T := TX5) (N := 6) hx hb hts inX5_setDesk_X5 hown hK hP 0 rfl rfl 1 (by decide) (hts _ (List.mem_of_getElem? (i := 4) rfl)) (fun _ h9 => h9) rfl dX5_setDesk_34 ?_
        refine va_get (D := D) (ci := 2) (v := .ref (((ad 1) 0) 2)) (C := RX3) (T := TX3) (N := 11) hx hb hts inX5_setDesk_X3 hown hK hP 7 rfl rfl 1 (by decide) (hts _ (List.mem_of_getElem? (i := 5) rfl)) (fun _ h9 => h9) rfl dX5_setDesk_37 ?_
        refine lv_iload_n hx hb dX5_setDesk_40 rfl (lv_at hl 1 rfl) ?_
        refine x_aldq (v := .ref (((ad 1) 1) 0)) hx hb hK hP 9 2 rfl rfl (vp_c (by decide)) rfl dX5_setDesk_41 ?_
        refine va_get (D := D) (ci := 0) (v := .ref (((ad 1) 1) 1)) (C := RX0) (T := TX0) (N := 8) hx hb hts inX5_setDesk_X0 hown hK hP 14 rfl rfl 0 (by decide) (hts _ (List.mem_of_getElem? (i := 6) rfl)) (fun _ h9 => h9) rfl dX5_setDesk_42 ?_
        refine lv_iload_n hx hb dX5_setDesk_45 rfl (lv_at hl 2 rfl) ?_
        refine x_iald (f := (V.2.1.2.1 0)) (j := what.toNatClampNeg) hx hb hK hP 15 0 rfl rfl rfl (dset_of c_2) dX5_setDesk_46 ?_
        refine lv_istore (lv' := [(4, .int ((V.2.1.2.1 0) what.toNatClampNeg)), (0, .ref (ad 0 0 0)), (1, .int (0 : Int32)), (2, .int what), (3, .int val2)]) hx hb dX5_setDesk_47 hl (by decide) rfl (fun ls hl => ?_)
        refine lv_aload_n hx hb dX5_setDesk_49 rfl (lv_at hl 1 rfl) ?_
        refine va_get (D := D) (ci := 4) (v := .ref (ad 1 0 0)) (C := RX5) (T := TX5) (N := 6) hx hb hts inX5_setDesk_X5 hown hK hP 0 rfl rfl 1 (by decide) (hts _ (List.mem_of_getElem? (i := 4) rfl)) (fun _ h9 => h9) rfl dX5_setDesk_50 ?_
        refine lv_iload_n hx hb dX5_setDesk_53 rfl (lv_at hl 2 rfl) ?_
        refine lv_iload_n hx hb dX5_setDesk_54 rfl (lv_at hl 3 rfl) ?_
        refine lv_iload_n hx hb dX5_setDesk_55 rfl (lv_at hl 4 rfl) ?_
        refine cl_n (va_runV (As := [.int (0 : Int32), .int what, .int val2]) (rest := []) ⟨hx, hb, hml, hown, hts⟩ (c_X3_changeDesk l D cy (ad 1) V.2.1 (0 : Int32) what val2 H.size (by first | exact Or.inl rfl | exact Or.inr rfl) (dset_of c_2)) (cwV 3 hts gX5_setDesk_X3_changeDesk rfl rfl rfl (by decide +kernel) ⟨Nat.le_of_ble_eq_true rfl, Nat.le_of_ble_eq_true rfl⟩) ⟨blU, va_recv hK hP (ci := 2) (q0 := 7) rfl rfl, preU hP hD (pmB (bB cy ad (V.1, V.2.1, V.2.2.1, V.2.2.2.1, V.2.2.2.2.1, (hrem V.2.2.2.2.2.1 V.2.1), V.2.2.2.2.2.2)) 2 _ (cS cy (ad 1) (w_X3_changeDesk V.2.1 (0 : Int32) what val2)) rfl).1 hK hE hS hA⟩ rfl rfl hl.1 rfl (lv_room (Nat.le_of_ble_eq_true rfl)) dX5_setDesk_56 ⟨Nat.le_of_ble_eq_true rfl, Nat.le_of_ble_eq_true rfl⟩) hP hD (pmB (bB cy ad (V.1, V.2.1, V.2.2.1, V.2.2.2.1, V.2.2.2.2.1, (hrem V.2.2.2.2.2.1 V.2.1), V.2.2.2.2.2.2)) 2 _ (cS cy (ad 1) (w_X3_changeDesk V.2.1 (0 : Int32) what val2)) rfl).1 hS hA (fun H locs hP hD hS => ?_)
        have hP : va_P D vwCl (wB cy ad (V.1, (w_X3_changeDesk V.2.1 (0 : Int32) what val2), V.2.2.1, V.2.2.2.1, V.2.2.2.2.1, (hrem V.2.2.2.2.2.1 V.2.1), V.2.2.2.2.2.2)) H := vP_perm hP (pmB (bB cy ad (V.1, V.2.1, V.2.2.1, V.2.2.2.1, V.2.2.2.2.1, (hrem V.2.2.2.2.2.1 V.2.1), V.2.2.2.2.2.2)) 2 _ (cS cy (ad 1) (w_X3_changeDesk V.2.1 (0 : Int32) what val2)) rfl).2
        have hD : va_D A (wB cy ad (V.1, (w_X3_changeDesk V.2.1 (0 : Int32) what val2), V.2.2.1, V.2.2.2.1, V.2.2.2.2.1, (hrem V.2.2.2.2.2.1 V.2.1), V.2.2.2.2.2.2)) := vD_perm hD (pmB (bB cy ad (V.1, V.2.1, V.2.2.1, V.2.2.2.1, V.2.2.2.2.1, (hrem V.2.2.2.2.2.1 V.2.1), V.2.2.2.2.2.2)) 2 _ (cS cy (ad 1) (w_X3_changeDesk V.2.1 (0 : Int32) what val2)) rfl).2
        refine lv_iload hx hb dX5_setDesk_59 (lv_at hl 0 rfl) ?_
        refine W.widen (k := 2) (n := 12) (Nat.le_of_ble_eq_true rfl) (Nat.le_of_ble_eq_true rfl) ?_
        have hr9 : (o_X5_setDesk V (0 : Int32) what val2) = ((0 : Int32), ((V.2.1.2.1 0) what.toNatClampNeg)) := by unfold o_X5_setDesk; simp only [if_pos c_1, if_pos hd0, if_neg c_2, if_true, if_false]
        have hw9 : (w_X5_setDesk V (0 : Int32) what val2) = (V.1, (w_X3_changeDesk V.2.1 (0 : Int32) what val2), V.2.2.1, V.2.2.2.1, V.2.2.2.2.1, (hrem V.2.2.2.2.2.1 V.2.1), V.2.2.2.2.2.2) := by unfold w_X5_setDesk; simp only [if_pos c_1, if_pos hd0, if_neg c_2, if_true, if_false]
        exact hret _ H locs _ ls hr9 (by rw [hw9]; exact hP) (by rw [hw9]; exact hD) hS dX5_setDesk_61
      · have ho9 : (o_X5_setDesk V (0 : Int32) what val2).1 = (-9999002 : Int32) := by unfold o_X5_setDesk; simp only [if_pos c_1, if_pos hd0, if_pos c_2, if_true, if_false]
        have hw9 : (w_X5_setDesk V (0 : Int32) what val2) = V := by unfold w_X5_setDesk; simp only [if_pos c_1, if_pos hd0, if_pos c_2, if_true, if_false]
        rw [hQ]
        exact thr_2 (text := "no such setting of a desk") hx hb hlt hown (hts _ (List.mem_of_getElem? (i := 1) rfl)) (hts _ (List.mem_of_getElem? (i := 2) rfl)) (fun w hw => hts w (List.mem_cons_of_mem _ (List.mem_append_left _ (List.mem_append_right _ hw)))) (by decide +kernel) hE hS (hl.1.trans hml.symm) dX5_setDesk_12 dX5_setDesk_15 dX5_setDesk_16 dX5_setDesk_18 dX5_setDesk_21 htab (Nat.le_of_ble_eq_true rfl) (Nat.le_of_ble_eq_true rfl) (Nat.le_of_ble_eq_true rfl) (Nat.le_of_ble_eq_true rfl) hlocks hAe ho9 (by rw [hw9]; exact hP) (by rw [hw9]; exact hD) (Nat.le_of_ble_eq_true rfl) (Nat.le_of_ble_eq_true rfl)
    · subst hd
      have hd1 : ¬ (1 : Int32) = 0 := by decide
      have hl : lv_has ls 5 [(0, .ref (ad 0 0 0)), (1, .int (1 : Int32)), (2, .int what), (3, .int val2)] := hl
      refine lv_iload_n hx hb dX5_setDesk_4 rfl (lv_at hl 2 rfl) ?_
      refine lv_iload_n hx hb dX5_setDesk_5 rfl (lv_at hl 3 rfl) ?_
      refine cl_i (va_runS (As := [.int what, .int val2]) (rest := []) ⟨hx, hb, hml, hown, hts⟩ (c_X5_isDeskSetting l D cy what val2 H.size) (va_cwS 2 hts gX5_setDesk_X5_isDeskSetting rfl rfl rfl (by decide +kernel) ⟨Nat.le_of_ble_eq_true rfl, Nat.le_of_ble_eq_true rfl⟩) ⟨blU, preU hP hD (List.Perm.refl _) hK hE hS hA⟩ rfl rfl hl.1 rfl (lv_room (Nat.le_of_ble_eq_true rfl)) dX5_setDesk_6 ⟨Nat.le_of_ble_eq_true rfl, Nat.le_of_ble_eq_true rfl⟩) hP hD (List.Perm.refl _) hS hA (fun H locs hP hD hS => ?_)
      have hP : va_P D vwCl (wB cy ad V) H := hP
      have hD : va_D A (wB cy ad V) := hD
      refine lv_if_ne (tgt := 22) hx hb dX5_setDesk_9 (by decide) (fun c_3 => ?_) (fun c_3 => ?_)
      · refine lv_aload_n hx hb dX5_setDesk_22 rfl (lv_at hl 0 rfl) ?_
        refine va_get (D := D) (ci := 4) (v := .ref (ad 0 2 0)) (C := RX5) (T := TX5) (N := 6) hx hb hts inX5_setDesk_X5 hown hK hP 0 rfl rfl 3 (by decide) (hts _ (List.mem_of_getElem? (i := 3) rfl)) (fun _ h9 => h9) rfl dX5_setDesk_23 ?_
        refine lv_aload_n hx hb dX5_setDesk_26 rfl (lv_at hl 0 rfl) ?_
        refine va_get (D := D) (ci := 4) (v := .ref (ad 1 0 0)) (C := RX5) (T := TX5) (N := 6) hx hb hts inX5_setDesk_X5 hown hK hP 0 rfl rfl 1 (by decide) (hts _ (List.mem_of_getElem? (i := 4) rfl)) (fun _ h9 => h9) rfl dX5_setDesk_27 ?_
        refine cl_n (va_runV (As := [.ref (ad 1 0 0)]) (rest := []) ⟨hx, hb, hml, hown, hts⟩ (c_X1_remember l D cy (ad 0 2) (fun i => ad (i + 5)) (ad 1) V.2.2.2.2.2.1 V.2.1 H.size hho) (cwV 1 hts gX5_setDesk_X1_remember rfl rfl rfl (by decide +kernel) ⟨Nat.le_of_ble_eq_true rfl, Nat.le_of_ble_eq_true rfl⟩) ⟨blU, va_recv hK (vP_perm hP (pmB2 (bB cy ad V) 6 2 _ _ (cH cy (ad 0 2) (fun i => ad (i + 5)) (hrem V.2.2.2.2.2.1 V.2.1)) (cS cy (ad 1) V.2.1) rfl rfl).1) (ci := 1) (q0 := 0) rfl rfl, preU hP hD (pmB2 (bB cy ad V) 6 2 _ _ (cH cy (ad 0 2) (fun i => ad (i + 5)) (hrem V.2.2.2.2.2.1 V.2.1)) (cS cy (ad 1) V.2.1) rfl rfl).1 hK hE hS hA⟩ rfl rfl hl.1 rfl (lv_room (Nat.le_of_ble_eq_true rfl)) dX5_setDesk_30 ⟨Nat.le_of_ble_eq_true rfl, Nat.le_of_ble_eq_true rfl⟩) hP hD (pmB2 (bB cy ad V) 6 2 _ _ (cH cy (ad 0 2) (fun i => ad (i + 5)) (hrem V.2.2.2.2.2.1 V.2.1)) (cS cy (ad 1) V.2.1) rfl rfl).1 hS hA (fun H locs hP hD hS => ?_)
        have hP : va_P D vwCl (wB cy ad (V.1, V.2.1, V.2.2.1, V.2.2.2.1, V.2.2.2.2.1, (hrem V.2.2.2.2.2.1 V.2.1), V.2.2.2.2.2.2)) H := vP_perm hP ((pmB2 (bB cy ad V) 6 2 _ _ (cH cy (ad 0 2) (fun i => ad (i + 5)) (hrem V.2.2.2.2.2.1 V.2.1)) (cS cy (ad 1) V.2.1) rfl rfl).2.trans (pmB (bB cy ad (V.1, V.2.1, V.2.2.1, V.2.2.2.1, V.2.2.2.2.1, (hrem V.2.2.2.2.2.1 V.2.1), V.2.2.2.2.2.2)) 6 _ (cH cy (ad 0 2) (fun i => ad (i + 5)) (hrem V.2.2.2.2.2.1 V.2.1)) rfl).1.symm)
        have hD : va_D A (wB cy ad (V.1, V.2.1, V.2.2.1, V.2.2.2.1, V.2.2.2.2.1, (hrem V.2.2.2.2.2.1 V.2.1), V.2.2.2.2.2.2)) := vD_perm hD ((pmB2 (bB cy ad V) 6 2 _ _ (cH cy (ad 0 2) (fun i => ad (i + 5)) (hrem V.2.2.2.2.2.1 V.2.1)) (cS cy (ad 1) V.2.1) rfl rfl).2.trans (pmB (bB cy ad (V.1, V.2.1, V.2.2.1, V.2.2.2.1, V.2.2.2.2.1, (hrem V.2.2.2.2.2.1 V.2.1), V.2.2.2.2.2.2)) 6 _ (cH cy (ad 0 2) (fun i => ad (i + 5)) (hrem V.2.2.2.2.2.1 V.2.1)) rfl).1.symm)
        refine lv_aload_n hx hb dX5_setDesk_33 rfl (lv_at hl 0 rfl) ?_
        refine va_get (D := D) (ci := 4) (v := .ref (ad 1 0 0)) (C := RX5) (T := TX5) (N := 6) hx hb hts inX5_setDesk_X5 hown hK hP 0 rfl rfl 1 (by decide) (hts _ (List.mem_of_getElem? (i := 4) rfl)) (fun _ h9 => h9) rfl dX5_setDesk_34 ?_
        refine va_get (D := D) (ci := 2) (v := .ref (((ad 1) 0) 2)) (C := RX3) (T := TX3) (N := 11) hx hb hts inX5_setDesk_X3 hown hK hP 7 rfl rfl 1 (by decide) (hts _ (List.mem_of_getElem? (i := 5) rfl)) (fun _ h9 => h9) rfl dX5_setDesk_37 ?_
        refine lv_iload_n hx hb dX5_setDesk_40 rfl (lv_at hl 1 rfl) ?_
        refine x_aldq (v := .ref (((ad 1) 2) 0)) hx hb hK hP 9 2 rfl rfl (vp_c (by decide)) rfl dX5_setDesk_41 ?_
        refine va_get (D := D) (ci := 0) (v := .ref (((ad 1) 2) 1)) (C := RX0) (T := TX0) (N := 8) hx hb hts inX5_setDesk_X0 hown hK hP 21 rfl rfl 0 (by decide) (hts _ (List.mem_of_getElem? (i := 6) rfl)) (fun _ h9 => h9) rfl dX5_setDesk_42 ?_
        refine lv_iload_n hx hb dX5_setDesk_45 rfl (lv_at hl 2 rfl) ?_
        refine x_iald (f := (V.2.1.2.2 0)) (j := what.toNatClampNeg) hx hb hK hP 22 0 rfl rfl rfl (dset_of c_3) dX5_setDesk_46 ?_
        refine lv_istore (lv' := [(4, .int ((V.2.1.2.2 0) what.toNatClampNeg)), (0, .ref (ad 0 0 0)), (1, .int (1 : Int32)), (2, .int what), (3, .int val2)]) hx hb dX5_setDesk_47 hl (by decide) rfl (fun ls hl => ?_)
        refine lv_aload_n hx hb dX5_setDesk_49 rfl (lv_at hl 1 rfl) ?_
        refine va_get (D := D) (ci := 4) (v := .ref (ad 1 0 0)) (C := RX5) (T := TX5) (N := 6) hx hb hts inX5_setDesk_X5 hown hK hP 0 rfl rfl 1 (by decide) (hts _ (List.mem_of_getElem? (i := 4) rfl)) (fun _ h9 => h9) rfl dX5_setDesk_50 ?_
        refine lv_iload_n hx hb dX5_setDesk_53 rfl (lv_at hl 2 rfl) ?_
        refine lv_iload_n hx hb dX5_setDesk_54 rfl (lv_at hl 3 rfl) ?_
        refine lv_iload_n hx hb dX5_setDesk_55 rfl (lv_at hl 4 rfl) ?_
        refine cl_n (va_runV (As := [.int (1 : Int32), .int what, .int val2]) (rest := []) ⟨hx, hb, hml, hown, hts⟩ (c_X3_changeDesk l D cy (ad 1) V.2.1 (1 : Int32) what val2 H.size (by first | exact Or.inl rfl | exact Or.inr rfl) (dset_of c_3)) (cwV 3 hts gX5_setDesk_X3_changeDesk rfl rfl rfl (by decide +kernel) ⟨Nat.le_of_ble_eq_true rfl, Nat.le_of_ble_eq_true rfl⟩) ⟨blU, va_recv hK hP (ci := 2) (q0 := 7) rfl rfl, preU hP hD (pmB (bB cy ad (V.1, V.2.1, V.2.2.1, V.2.2.2.1, V.2.2.2.2.1, (hrem V.2.2.2.2.2.1 V.2.1), V.2.2.2.2.2.2)) 2 _ (cS cy (ad 1) (w_X3_changeDesk V.2.1 (1 : Int32) what val2)) rfl).1 hK hE hS hA⟩ rfl rfl hl.1 rfl (lv_room (Nat.le_of_ble_eq_true rfl)) dX5_setDesk_56 ⟨Nat.le_of_ble_eq_true rfl, Nat.le_of_ble_eq_true rfl⟩) hP hD (pmB (bB cy ad (V.1, V.2.1, V.2.2.1, V.2.2.2.1, V.2.2.2.2.1, (hrem V.2.2.2.2.2.1 V.2.1), V.2.2.2.2.2.2)) 2 _ (cS cy (ad 1) (w_X3_changeDesk V.2.1 (1 : Int32) what val2)) rfl).1 hS hA (fun H locs hP hD hS => ?_)
        have hP : va_P D vwCl (wB cy ad (V.1, (w_X3_changeDesk V.2.1 (1 : Int32) what val2), V.2.2.1, V.2.2.2.1, V.2.2.2.2.1, (hrem V.2.2.2.2.2.1 V.2.1), V.2.2.2.2.2.2)) H := vP_perm hP (pmB (bB cy ad (V.1, V.2.1, V.2.2.1, V.2.2.2.1, V.2.2.2.2.1, (hrem V.2.2.2.2.2.1 V.2.1), V.2.2.2.2.2.2)) 2 _ (cS cy (ad 1) (w_X3_changeDesk V.2.1 (1 : Int32) what val2)) rfl).2
        have hD : va_D A (wB cy ad (V.1, (w_X3_changeDesk V.2.1 (1 : Int32) what val2), V.2.2.1, V.2.2.2.1, V.2.2.2.2.1, (hrem V.2.2.2.2.2.1 V.2.1), V.2.2.2.2.2.2)) := vD_perm hD (pmB (bB cy ad (V.1, V.2.1, V.2.2.1, V.2.2.2.1, V.2.2.2.2.1, (hrem V.2.2.2.2.2.1 V.2.1), V.2.2.2.2.2.2)) 2 _ (cS cy (ad 1) (w_X3_changeDesk V.2.1 (1 : Int32) what val2)) rfl).2
        refine lv_iload hx hb dX5_setDesk_59 (lv_at hl 0 rfl) ?_
        refine W.widen (k := 2) (n := 12) (Nat.le_of_ble_eq_true rfl) (Nat.le_of_ble_eq_true rfl) ?_
        have hr9 : (o_X5_setDesk V (1 : Int32) what val2) = ((0 : Int32), ((V.2.1.2.2 0) what.toNatClampNeg)) := by unfold o_X5_setDesk; simp only [if_pos c_1, if_neg hd1, if_neg c_3, if_true, if_false]
        have hw9 : (w_X5_setDesk V (1 : Int32) what val2) = (V.1, (w_X3_changeDesk V.2.1 (1 : Int32) what val2), V.2.2.1, V.2.2.2.1, V.2.2.2.2.1, (hrem V.2.2.2.2.2.1 V.2.1), V.2.2.2.2.2.2) := by unfold w_X5_setDesk; simp only [if_pos c_1, if_neg hd1, if_neg c_3, if_true, if_false]
        exact hret _ H locs _ ls hr9 (by rw [hw9]; exact hP) (by rw [hw9]; exact hD) hS dX5_setDesk_61
      · have ho9 : (o_X5_setDesk V (1 : Int32) what val2).1 = (-9999002 : Int32) := by unfold o_X5_setDesk; simp only [if_pos c_1, if_neg hd1, if_pos c_3, if_true, if_false]
        have hw9 : (w_X5_setDesk V (1 : Int32) what val2) = V := by unfold w_X5_setDesk; simp only [if_pos c_1, if_neg hd1, if_pos c_3, if_true, if_false]
        rw [hQ]
        exact thr_2 (text := "no such setting of a desk") hx hb hlt hown (hts _ (List.mem_of_getElem? (i := 1) rfl)) (hts _ (List.mem_of_getElem? (i := 2) rfl)) (fun w hw => hts w (List.mem_cons_of_mem _ (List.mem_append_left _ (List.mem_append_right _ hw)))) (by decide +kernel) hE hS (hl.1.trans hml.symm) dX5_setDesk_12 dX5_setDesk_15 dX5_setDesk_16 dX5_setDesk_18 dX5_setDesk_21 htab (Nat.le_of_ble_eq_true rfl) (Nat.le_of_ble_eq_true rfl) (Nat.le_of_ble_eq_true rfl) (Nat.le_of_ble_eq_true rfl) hlocks hAe ho9 (by rw [hw9]; exact hP) (by rw [hw9]; exact hD) (Nat.le_of_ble_eq_true rfl) (Nat.le_of_ble_eq_true rfl)

def o_X5_set (V : BV) (what : Int32) (val2 : Int32) : Int32 × Int32 := (if (r_X5_isCommonSetting what val2) = 0 then ((-9999002 : Int32), (0 : Int32)) else ((0 : Int32), ((V.2.1.1 0) what.toNatClampNeg)))
def w_X5_set (V : BV) (what : Int32) (val2 : Int32) : BV := (if (r_X5_isCommonSetting what val2) = 0 then V else (V.1, (w_X3_changeBoth V.2.1 what val2), V.2.2.1, V.2.2.2.1, V.2.2.2.2.1, (hrem V.2.2.2.2.2.1 V.2.1), V.2.2.2.2.2.2))
abbrev rX5_set : Room := { frames := 6, cells := 1, slots := 6, locals := 124 }
theorem inX5_set_X3 : ∀ w ∈ u_ws RX3 TX3 11, w ∈ wsX5_set := by decide +kernel
theorem inX5_set_X5 : ∀ w ∈ u_ws RX5 TX5 6, w ∈ wsX5_set := by decide +kernel
set_option maxHeartbeats 4000000 in
set_option maxRecDepth 100000 in
theorem c_X5_set (l : Launch) (hlt : l.stackTraces = false) (D : va_G) (cy : Nat → ClassId) (ad : AD) (V : BV) (what : Int32) (val2 : Int32) (sz : Nat) (hho : hok V.2.2.2.2.2.1) : CX l yX5_set wsX5_set rX5_set D cy [.ref (ad 0 0 0), .int what, .int val2] (wB cy ad V) sz (o_X5_set V what val2) (wB cy ad (w_X5_set V what val2)) 1 6 := by
  refine stx_i (ty := .int) (cc := cX5_set) (maxL := 4) (by decide) rfl rfl (Nat.le_of_ble_eq_true rfl) ?_
  intro pp e s m below meth c A Q ls hx hb hts hown hml hlocks htab hsz hP hK hD hE hA hl hAe hQ hret hout
  subst hsz
  have hown : s.vm.findClass RX5 = some m.cls := hown
  have hl : lv_has ls 4 [(0, .ref (ad 0 0 0)), (1, .int what), (2, .int val2)] := hl
  obtain ⟨H, hH⟩ : ∃ H, H = s.heap := ⟨_, rfl⟩
  rw [← hH] at hP ⊢
  have hS : va_S A s.heap H [] := by rw [hH]; exact va_S.rf
  obtain ⟨locs, hlo⟩ : ∃ locs : List Loc, locs = [] := ⟨_, rfl⟩
  rw [← hlo] at hS ⊢
  refine lv_iload_n hx hb dX5_set_0 rfl (lv_at hl 1 rfl) ?_
  refine lv_iload_n hx hb dX5_set_1 rfl (lv_at hl 2 rfl) ?_
  refine cl_i (va_runS (As := [.int what, .int val2]) (rest := []) ⟨hx, hb, hml, hown, hts⟩ (c_X5_isCommonSetting l D cy what val2 H.size) (va_cwS 2 hts gX5_set_X5_isCommonSetting rfl rfl rfl (by decide +kernel) ⟨Nat.le_of_ble_eq_true rfl, Nat.le_of_ble_eq_true rfl⟩) ⟨blU, preU hP hD (List.Perm.refl _) hK hE hS hA⟩ rfl rfl hl.1 rfl (lv_room (Nat.le_of_ble_eq_true rfl)) dX5_set_2 ⟨Nat.le_of_ble_eq_true rfl, Nat.le_of_ble_eq_true rfl⟩) hP hD (List.Perm.refl _) hS hA (fun H locs hP hD hS => ?_)
  have hP : va_P D vwCl (wB cy ad V) H := hP
  have hD : va_D A (wB cy ad V) := hD
  refine lv_if_ne (tgt := 18) hx hb dX5_set_5 (by decide) (fun c_1 => ?_) (fun c_1 => ?_)
  · refine lv_aload_n hx hb dX5_set_18 rfl (lv_at hl 0 rfl) ?_
    refine va_get (D := D) (ci := 4) (v := .ref (ad 0 2 0)) (C := RX5) (T := TX5) (N := 6) hx hb hts inX5_set_X5 hown hK hP 0 rfl rfl 3 (by decide) (hts _ (List.mem_of_getElem? (i := 3) rfl)) (fun _ h9 => h9) rfl dX5_set_19 ?_
    refine lv_aload_n hx hb dX5_set_22 rfl (lv_at hl 0 rfl) ?_
    refine va_get (D := D) (ci := 4) (v := .ref (ad 1 0 0)) (C := RX5) (T := TX5) (N := 6) hx hb hts inX5_set_X5 hown hK hP 0 rfl rfl 1 (by decide) (hts _ (List.mem_of_getElem? (i := 4) rfl)) (fun _ h9 => h9) rfl dX5_set_23 ?_
    refine cl_n (va_runV (As := [.ref (ad 1 0 0)]) (rest := []) ⟨hx, hb, hml, hown, hts⟩ (c_X1_remember l D cy (ad 0 2) (fun i => ad (i + 5)) (ad 1) V.2.2.2.2.2.1 V.2.1 H.size hho) (cwV 1 hts gX5_set_X1_remember rfl rfl rfl (by decide +kernel) ⟨Nat.le_of_ble_eq_true rfl, Nat.le_of_ble_eq_true rfl⟩) ⟨blU, va_recv hK (vP_perm hP (pmB2 (bB cy ad V) 6 2 _ _ (cH cy (ad 0 2) (fun i => ad (i + 5)) (hrem V.2.2.2.2.2.1 V.2.1)) (cS cy (ad 1) V.2.1) rfl rfl).1) (ci := 1) (q0 := 0) rfl rfl, preU hP hD (pmB2 (bB cy ad V) 6 2 _ _ (cH cy (ad 0 2) (fun i => ad (i + 5)) (hrem V.2.2.2.2.2.1 V.2.1)) (cS cy (ad 1) V.2.1) rfl rfl).1 hK hE hS hA⟩ rfl rfl hl.1 rfl (lv_room (Nat.le_of_ble_eq_true rfl)) dX5_set_26 ⟨Nat.le_of_ble_eq_true rfl, Nat.le_of_ble_eq_true rfl⟩) hP hD (pmB2 (bB cy ad V) 6 2 _ _ (cH cy (ad 0 2) (fun i => ad (i + 5)) (hrem V.2.2.2.2.2.1 V.2.1)) (cS cy (ad 1) V.2.1) rfl rfl).1 hS hA (fun H locs hP hD hS => ?_)
    have hP : va_P D vwCl (wB cy ad (V.1, V.2.1, V.2.2.1, V.2.2.2.1, V.2.2.2.2.1, (hrem V.2.2.2.2.2.1 V.2.1), V.2.2.2.2.2.2)) H := vP_perm hP ((pmB2 (bB cy ad V) 6 2 _ _ (cH cy (ad 0 2) (fun i => ad (i + 5)) (hrem V.2.2.2.2.2.1 V.2.1)) (cS cy (ad 1) V.2.1) rfl rfl).2.trans (pmB (bB cy ad (V.1, V.2.1, V.2.2.1, V.2.2.2.1, V.2.2.2.2.1, (hrem V.2.2.2.2.2.1 V.2.1), V.2.2.2.2.2.2)) 6 _ (cH cy (ad 0 2) (fun i => ad (i + 5)) (hrem V.2.2.2.2.2.1 V.2.1)) rfl).1.symm)
    have hD : va_D A (wB cy ad (V.1, V.2.1, V.2.2.1, V.2.2.2.1, V.2.2.2.2.1, (hrem V.2.2.2.2.2.1 V.2.1), V.2.2.2.2.2.2)) := vD_perm hD ((pmB2 (bB cy ad V) 6 2 _ _ (cH cy (ad 0 2) (fun i => ad (i + 5)) (hrem V.2.2.2.2.2.1 V.2.1)) (cS cy (ad 1) V.2.1) rfl rfl).2.trans (pmB (bB cy ad (V.1, V.2.1, V.2.2.1, V.2.2.2.1, V.2.2.2.2.1, (hrem V.2.2.2.2.2.1 V.2.1), V.2.2.2.2.2.2)) 6 _ (cH cy (ad 0 2) (fun i => ad (i + 5)) (hrem V.2.2.2.2.2.1 V.2.1)) rfl).1.symm)
    refine lv_aload_n hx hb dX5_set_29 rfl (lv_at hl 0 rfl) ?_
    refine va_get (D := D) (ci := 4) (v := .ref (ad 1 0 0)) (C := RX5) (T := TX5) (N := 6) hx hb hts inX5_set_X5 hown hK hP 0 rfl rfl 1 (by decide) (hts _ (List.mem_of_getElem? (i := 4) rfl)) (fun _ h9 => h9) rfl dX5_set_30 ?_
    refine va_get (D := D) (ci := 2) (v := .ref (((ad 1) 0) 1)) (C := RX3) (T := TX3) (N := 11) hx hb hts inX5_set_X3 hown hK hP 7 rfl rfl 0 (by decide) (hts _ (List.mem_of_getElem? (i := 5) rfl)) (fun _ h9 => h9) rfl dX5_set_33 ?_
    refine lv_iload_n hx hb dX5_set_36 rfl (lv_at hl 1 rfl) ?_
    refine x_iald (f := (V.2.1.1 0)) (j := what.toNatClampNeg) hx hb hK hP 8 0 rfl rfl rfl (cset_of c_1) dX5_set_37 ?_
    refine lv_istore_n (lv' := [(3, .int ((V.2.1.1 0) what.toNatClampNeg)), (0, .ref (ad 0 0 0)), (1, .int what), (2, .int val2)]) hx hb dX5_set_38 rfl hl (by decide) rfl (fun ls hl => ?_)
    refine lv_aload_n hx hb dX5_set_39 rfl (lv_at hl 1 rfl) ?_
    refine va_get (D := D) (ci := 4) (v := .ref (ad 1 0 0)) (C := RX5) (T := TX5) (N := 6) hx hb hts inX5_set_X5 hown hK hP 0 rfl rfl 1 (by decide) (hts _ (List.mem_of_getElem? (i := 4) rfl)) (fun _ h9 => h9) rfl dX5_set_40 ?_
    refine lv_iload_n hx hb dX5_set_43 rfl (lv_at hl 2 rfl) ?_
    refine lv_iload_n hx hb dX5_set_44 rfl (lv_at hl 3 rfl) ?_
    refine cl_n (va_runV (As := [.int what, .int val2]) (rest := []) ⟨hx, hb, hml, hown, hts⟩ (c_X3_changeBoth l D cy (ad 1) V.2.1 what val2 H.size (cset_of c_1)) (cwV 2 hts gX5_set_X3_changeBoth rfl rfl rfl (by decide +kernel) ⟨Nat.le_of_ble_eq_true rfl, Nat.le_of_ble_eq_true rfl⟩) ⟨blU, va_recv hK hP (ci := 2) (q0 := 7) rfl rfl, preU hP hD (pmB (bB cy ad (V.1, V.2.1, V.2.2.1, V.2.2.2.1, V.2.2.2.2.1, (hrem V.2.2.2.2.2.1 V.2.1), V.2.2.2.2.2.2)) 2 _ (cS cy (ad 1) (w_X3_changeBoth V.2.1 what val2)) rfl).1 hK hE hS hA⟩ rfl rfl hl.1 rfl (lv_room (Nat.le_of_ble_eq_true rfl)) dX5_set_45 ⟨Nat.le_of_ble_eq_true rfl, Nat.le_of_ble_eq_true rfl⟩) hP hD (pmB (bB cy ad (V.1, V.2.1, V.2.2.1, V.2.2.2.1, V.2.2.2.2.1, (hrem V.2.2.2.2.2.1 V.2.1), V.2.2.2.2.2.2)) 2 _ (cS cy (ad 1) (w_X3_changeBoth V.2.1 what val2)) rfl).1 hS hA (fun H locs hP hD hS => ?_)
    have hP : va_P D vwCl (wB cy ad (V.1, (w_X3_changeBoth V.2.1 what val2), V.2.2.1, V.2.2.2.1, V.2.2.2.2.1, (hrem V.2.2.2.2.2.1 V.2.1), V.2.2.2.2.2.2)) H := vP_perm hP (pmB (bB cy ad (V.1, V.2.1, V.2.2.1, V.2.2.2.1, V.2.2.2.2.1, (hrem V.2.2.2.2.2.1 V.2.1), V.2.2.2.2.2.2)) 2 _ (cS cy (ad 1) (w_X3_changeBoth V.2.1 what val2)) rfl).2
    have hD : va_D A (wB cy ad (V.1, (w_X3_changeBoth V.2.1 what val2), V.2.2.1, V.2.2.2.1, V.2.2.2.2.1, (hrem V.2.2.2.2.2.1 V.2.1), V.2.2.2.2.2.2)) := vD_perm hD (pmB (bB cy ad (V.1, V.2.1, V.2.2.1, V.2.2.2.1, V.2.2.2.2.1, (hrem V.2.2.2.2.2.1 V.2.1), V.2.2.2.2.2.2)) 2 _ (cS cy (ad 1) (w_X3_changeBoth V.2.1 what val2)) rfl).2
    refine lv_iload_n hx hb dX5_set_48 rfl (lv_at hl 0 rfl) ?_
    refine W.widen (k := 1) (n := 6) (Nat.le_of_ble_eq_true rfl) (Nat.le_of_ble_eq_true rfl) ?_
    have hr9 : (o_X5_set V what val2) = ((0 : Int32), ((V.2.1.1 0) what.toNatClampNeg)) := by unfold o_X5_set; simp only [if_neg c_1, if_true, if_false]
    have hw9 : (w_X5_set V what val2) = (V.1, (w_X3_changeBoth V.2.1 what val2), V.2.2.1, V.2.2.2.1, V.2.2.2.2.1, (hrem V.2.2.2.2.2.1 V.2.1), V.2.2.2.2.2.2) := by unfold w_X5_set; simp only [if_neg c_1, if_true, if_false]
    exact hret _ H locs _ ls hr9 (by rw [hw9]; exact hP) (by rw [hw9]; exact hD) hS dX5_set_49
  · have ho9 : (o_X5_set V what val2).1 = (-9999002 : Int32) := by unfold o_X5_set; simp only [if_pos c_1, if_true, if_false]
    have hw9 : (w_X5_set V what val2) = V := by unfold w_X5_set; simp only [if_pos c_1, if_true, if_false]
    rw [hQ]
    exact thr_2 (text := "no such setting") hx hb hlt hown (hts _ (List.mem_of_getElem? (i := 1) rfl)) (hts _ (List.mem_of_getElem? (i := 2) rfl)) (fun w hw => hts w (List.mem_cons_of_mem _ (List.mem_append_right _ hw))) (by decide +kernel) hE hS (hl.1.trans hml.symm) dX5_set_8 dX5_set_11 dX5_set_12 dX5_set_14 dX5_set_17 htab (Nat.le_of_ble_eq_true rfl) (Nat.le_of_ble_eq_true rfl) (Nat.le_of_ble_eq_true rfl) (Nat.le_of_ble_eq_true rfl) hlocks hAe ho9 (by rw [hw9]; exact hP) (by rw [hw9]; exact hD) (Nat.le_of_ble_eq_true rfl) (Nat.le_of_ble_eq_true rfl)

def o_X5_strengthen (V : BV) (d : Int32) (i : Int32) (val2 : Int32) : Int32 × Int32 := (if (o_X5_checkDesk d) = 0 then (if (o_X5_checkNote V i) = 0 then (if d = 0 then (if (r_X3_isStrength V.2.1 val2) = 0 then ((-9999002 : Int32), (0 : Int32)) else ((0 : Int32), ((V.2.1.2.1 1) i.toNatClampNeg))) else (if (r_X3_isStrength V.2.1 val2) = 0 then ((-9999002 : Int32), (0 : Int32)) else ((0 : Int32), ((V.2.1.2.2 1) i.toNatClampNeg)))) else ((o_X5_checkNote V i), (0 : Int32))) else ((o_X5_checkDesk d), (0 : Int32)))
def w_X5_strengthen (V : BV) (d : Int32) (i : Int32) (val2 : Int32) : BV := (if (o_X5_checkDesk d) = 0 then (if (o_X5_checkNote V i) = 0 then (if d = 0 then (if (r_X3_isStrength V.2.1 val2) = 0 then V else (V.1, (V.2.1.1, (mkD (V.2.1.2.1 0) (upd (V.2.1.2.1 1) i.toNatClampNeg val2) (V.2.1.2.1 2) (V.2.1.2.1 3) (V.2.1.2.1 4) (V.2.1.2.1 5) (V.2.1.2.1 6 0) (V.2.1.2.1 7 0)), V.2.1.2.2), V.2.2.1, V.2.2.2.1, V.2.2.2.2.1, (hrem V.2.2.2.2.2.1 V.2.1), V.2.2.2.2.2.2)) else (if (r_X3_isStrength V.2.1 val2) = 0 then V else (V.1, (V.2.1.1, V.2.1.2.1, (mkD (V.2.1.2.2 0) (upd (V.2.1.2.2 1) i.toNatClampNeg val2) (V.2.1.2.2 2) (V.2.1.2.2 3) (V.2.1.2.2 4) (V.2.1.2.2 5) (V.2.1.2.2 6 0) (V.2.1.2.2 7 0))), V.2.2.1, V.2.2.2.1, V.2.2.2.2.1, (hrem V.2.2.2.2.2.1 V.2.1), V.2.2.2.2.2.2))) else V) else V)
abbrev rX5_strengthen : Room := { frames := 7, cells := 3, slots := 18, locals := 124 }
theorem inX5_strengthen_X0 : ∀ w ∈ u_ws RX0 TX0 8, w ∈ wsX5_strengthen := by decide +kernel
theorem inX5_strengthen_X3 : ∀ w ∈ u_ws RX3 TX3 11, w ∈ wsX5_strengthen := by decide +kernel
theorem inX5_strengthen_X5 : ∀ w ∈ u_ws RX5 TX5 6, w ∈ wsX5_strengthen := by decide +kernel
set_option maxHeartbeats 4000000 in
set_option maxRecDepth 100000 in
theorem c_X5_strengthen (l : Launch) (hlt : l.stackTraces = false) (D : va_G) (cy : Nat → ClassId) (ad : AD) (V : BV) (d : Int32) (i : Int32) (val2 : Int32) (sz : Nat) (hho : hok V.2.2.2.2.2.1) (hsz2 : szok (V.2.1.1 0 0)) : CX l yX5_strengthen wsX5_strengthen rX5_strengthen D cy [.ref (ad 0 0 0), .int d, .int i, .int val2] (wB cy ad V) sz (o_X5_strengthen V d i val2) (wB cy ad (w_X5_strengthen V d i val2)) 3 18 := by
  refine stx_i (ty := .int) (cc := cX5_strengthen) (maxL := 5) (by decide) rfl rfl (Nat.le_of_ble_eq_true rfl) ?_
  intro pp e s m below meth c A Q ls hx hb hts hown hml hlocks htab hsz hP hK hD hE hA hl hAe hQ hret hout
  subst hsz
  have hown : s.vm.findClass RX5 = some m.cls := hown
  have hl : lv_has ls 5 [(0, .ref (ad 0 0 0)), (1, .int d), (2, .int i), (3, .int val2)] := hl
  obtain ⟨H, hH⟩ : ∃ H, H = s.heap := ⟨_, rfl⟩
  rw [← hH] at hP ⊢
  have hS : va_S A s.heap H [] := by rw [hH]; exact va_S.rf
  obtain ⟨locs, hlo⟩ : ∃ locs : List Loc, locs = [] := ⟨_, rfl⟩
  rw [← hlo] at hS ⊢
  refine lv_iload_n hx hb dX5_strengthen_0 rfl (lv_at hl 1 rfl) ?_
  refine clx_n (vx_runS (As := [.int d]) (rest := []) ⟨hx, hb, hml, hown, hts⟩ (c_X5_checkDesk l hlt D cy d H.size) (va_cwS 1 hts gX5_strengthen_X5_checkDesk rfl rfl rfl (by decide +kernel) ⟨Nat.le_of_ble_eq_true rfl, Nat.le_of_ble_eq_true rfl⟩) ⟨blU, preU hP hD (List.Perm.refl _) hK hE hS hA⟩ rfl rfl hl.1 rfl (lv_room (Nat.le_of_ble_eq_true rfl)) dX5_strengthen_1 ⟨Nat.le_of_ble_eq_true rfl, Nat.le_of_ble_eq_true rfl⟩) hP hD (List.Perm.refl _) hS hA (fun c_1 q9 ce H locs hq hv hcl hP hD hS => ?_) (fun c_1 H locs hP hD hS => ?_)
  · have hP : va_P D vwCl (wB cy ad V) H := vP_perm hP (List.Perm.refl _)
    have hD : va_D A (wB cy ad V) := vD_perm hD (List.Perm.refl _)
    have ho9 : (o_X5_strengthen V d i val2).1 = (o_X5_checkDesk d) := by unfold o_X5_strengthen; simp only [if_neg c_1, if_true, if_false]
    have hw9 : (w_X5_strengthen V d i val2) = V := by unfold w_X5_strengthen; simp only [if_neg c_1, if_true, if_false]
    exact vx_widen (k := 3) (n := 18) (Nat.le_of_ble_eq_true rfl) (Nat.le_of_ble_eq_true rfl) (hout _ q9 ce H locs _ ls _ ho9 c_1 hq hv hcl (by rw [hw9]; exact hP) (by rw [hw9]; exact hD) hS)
  · have hP : va_P D vwCl (wB cy ad V) H := vP_perm hP (List.Perm.refl _)
    have hD : va_D A (wB cy ad V) := vD_perm hD (List.Perm.refl _)
    refine lv_aload_n hx hb dX5_strengthen_4 rfl (lv_at hl 0 rfl) ?_
    refine lv_iload_n hx hb dX5_strengthen_5 rfl (lv_at hl 2 rfl) ?_
    refine clx_n (vx_runV (As := [.int i]) (rest := []) ⟨hx, hb, hml, hown, hts⟩ (c_X5_checkNote l hlt D cy ad V i H.size) (cwV 1 hts gX5_strengthen_X5_checkNote rfl rfl rfl (by decide +kernel) ⟨Nat.le_of_ble_eq_true rfl, Nat.le_of_ble_eq_true rfl⟩) ⟨blU, va_recv hK hP (ci := 4) (q0 := 0) rfl rfl, preU hP hD (pmI _) hK hE hS hA⟩ rfl rfl hl.1 rfl (lv_room (Nat.le_of_ble_eq_true rfl)) dX5_strengthen_6 ⟨Nat.le_of_ble_eq_true rfl, Nat.le_of_ble_eq_true rfl⟩) hP hD (pmI _) hS hA (fun c_2 q9 ce H locs hq hv hcl hP hD hS => ?_) (fun c_2 H locs hP hD hS => ?_)
    · have hP : va_P D vwCl (wB cy ad V) H := vP_perm hP (pmI _).symm
      have hD : va_D A (wB cy ad V) := vD_perm hD (pmI _).symm
      have ho9 : (o_X5_strengthen V d i val2).1 = (o_X5_checkNote V i) := by unfold o_X5_strengthen; simp only [if_pos c_1, if_neg c_2, if_true, if_false]
      have hw9 : (w_X5_strengthen V d i val2) = V := by unfold w_X5_strengthen; simp only [if_pos c_1, if_neg c_2, if_true, if_false]
      exact vx_widen (k := 3) (n := 18) (Nat.le_of_ble_eq_true rfl) (Nat.le_of_ble_eq_true rfl) (hout _ q9 ce H locs _ ls _ ho9 c_2 hq hv hcl (by rw [hw9]; exact hP) (by rw [hw9]; exact hD) hS)
    · have hP : va_P D vwCl (wB cy ad V) H := vP_perm hP (pmI _).symm
      have hD : va_D A (wB cy ad V) := vD_perm hD (pmI _).symm
      have hd := (ckDesk_of c_1)
      rcases hd with hd | hd
      · subst hd
        have hd0 : (0 : Int32) = 0 := by decide
        have hl : lv_has ls 5 [(0, .ref (ad 0 0 0)), (1, .int (0 : Int32)), (2, .int i), (3, .int val2)] := hl
        refine lv_aload_n hx hb dX5_strengthen_9 rfl (lv_at hl 0 rfl) ?_
        refine va_get (D := D) (ci := 4) (v := .ref (ad 1 0 0)) (C := RX5) (T := TX5) (N := 6) hx hb hts inX5_strengthen_X5 hown hK hP 0 rfl rfl 1 (by decide) (hts _ (List.mem_of_getElem? (i := 3) rfl)) (fun _ h9 => h9) rfl dX5_strengthen_10 ?_
        refine lv_iload_n hx hb dX5_strengthen_13 rfl (lv_at hl 3 rfl) ?_
        refine cl_i (va_runV (As := [.int val2]) (rest := []) ⟨hx, hb, hml, hown, hts⟩ (c_X3_isStrength l D cy (ad 1) V.2.1 val2 H.size) (cwV 1 hts gX5_strengthen_X3_isStrength rfl rfl rfl (by decide +kernel) ⟨Nat.le_of_ble_eq_true rfl, Nat.le_of_ble_eq_true rfl⟩) ⟨blU, va_recv hK hP (ci := 2) (q0 := 7) rfl rfl, preU hP hD (pmB (bB cy ad V) 2 _ (cS cy (ad 1) V.2.1) rfl).1 hK hE hS hA⟩ rfl rfl hl.1 rfl (lv_room (Nat.le_of_ble_eq_true rfl)) dX5_strengthen_14 ⟨Nat.le_of_ble_eq_true rfl, Nat.le_of_ble_eq_true rfl⟩) hP hD (pmB (bB cy ad V) 2 _ (cS cy (ad 1) V.2.1) rfl).1 hS hA (fun H locs hP hD hS => ?_)
        have hP : va_P D vwCl (wB cy ad V) H := vP_perm hP (pmB (bB cy ad V) 2 _ (cS cy (ad 1) V.2.1) rfl).2
        have hD : va_D A (wB cy ad V) := vD_perm hD (pmB (bB cy ad V) 2 _ (cS cy (ad 1) V.2.1) rfl).2
        refine lv_if_ne (tgt := 30) hx hb dX5_strengthen_17 (by decide) (fun c_3 => ?_) (fun c_3 => ?_)
        · refine lv_aload_n hx hb dX5_strengthen_30 rfl (lv_at hl 0 rfl) ?_
          refine va_get (D := D) (ci := 4) (v := .ref (ad 0 2 0)) (C := RX5) (T := TX5) (N := 6) hx hb hts inX5_strengthen_X5 hown hK hP 0 rfl rfl 3 (by decide) (hts _ (List.mem_of_getElem? (i := 4) rfl)) (fun _ h9 => h9) rfl dX5_strengthen_31 ?_
          refine lv_aload_n hx hb dX5_strengthen_34 rfl (lv_at hl 0 rfl) ?_
          refine va_get (D := D) (ci := 4) (v := .ref (ad 1 0 0)) (C := RX5) (T := TX5) (N := 6) hx hb hts inX5_strengthen_X5 hown hK hP 0 rfl rfl 1 (by decide) (hts _ (List.mem_of_getElem? (i := 3) rfl)) (fun _ h9 => h9) rfl dX5_strengthen_35 ?_
          refine cl_n (va_runV (As := [.ref (ad 1 0 0)]) (rest := []) ⟨hx, hb, hml, hown, hts⟩ (c_X1_remember l D cy (ad 0 2) (fun i => ad (i + 5)) (ad 1) V.2.2.2.2.2.1 V.2.1 H.size hho) (cwV 1 hts gX5_strengthen_X1_remember rfl rfl rfl (by decide +kernel) ⟨Nat.le_of_ble_eq_true rfl, Nat.le_of_ble_eq_true rfl⟩) ⟨blU, va_recv hK (vP_perm hP (pmB2 (bB cy ad V) 6 2 _ _ (cH cy (ad 0 2) (fun i => ad (i + 5)) (hrem V.2.2.2.2.2.1 V.2.1)) (cS cy (ad 1) V.2.1) rfl rfl).1) (ci := 1) (q0 := 0) rfl rfl, preU hP hD (pmB2 (bB cy ad V) 6 2 _ _ (cH cy (ad 0 2) (fun i => ad (i + 5)) (hrem V.2.2.2.2.2.1 V.2.1)) (cS cy (ad 1) V.2.1) rfl rfl).1 hK hE hS hA⟩ rfl rfl hl.1 rfl (lv_room (Nat.le_of_ble_eq_true rfl)) dX5_strengthen_38 ⟨Nat.le_of_ble_eq_true rfl, Nat.le_of_ble_eq_true rfl⟩) hP hD (pmB2 (bB cy ad V) 6 2 _ _ (cH cy (ad 0 2) (fun i => ad (i + 5)) (hrem V.2.2.2.2.2.1 V.2.1)) (cS cy (ad 1) V.2.1) rfl rfl).1 hS hA (fun H locs hP hD hS => ?_)
          have hP : va_P D vwCl (wB cy ad (V.1, V.2.1, V.2.2.1, V.2.2.2.1, V.2.2.2.2.1, (hrem V.2.2.2.2.2.1 V.2.1), V.2.2.2.2.2.2)) H := vP_perm hP ((pmB2 (bB cy ad V) 6 2 _ _ (cH cy (ad 0 2) (fun i => ad (i + 5)) (hrem V.2.2.2.2.2.1 V.2.1)) (cS cy (ad 1) V.2.1) rfl rfl).2.trans (pmB (bB cy ad (V.1, V.2.1, V.2.2.1, V.2.2.2.1, V.2.2.2.2.1, (hrem V.2.2.2.2.2.1 V.2.1), V.2.2.2.2.2.2)) 6 _ (cH cy (ad 0 2) (fun i => ad (i + 5)) (hrem V.2.2.2.2.2.1 V.2.1)) rfl).1.symm)
          have hD : va_D A (wB cy ad (V.1, V.2.1, V.2.2.1, V.2.2.2.1, V.2.2.2.2.1, (hrem V.2.2.2.2.2.1 V.2.1), V.2.2.2.2.2.2)) := vD_perm hD ((pmB2 (bB cy ad V) 6 2 _ _ (cH cy (ad 0 2) (fun i => ad (i + 5)) (hrem V.2.2.2.2.2.1 V.2.1)) (cS cy (ad 1) V.2.1) rfl rfl).2.trans (pmB (bB cy ad (V.1, V.2.1, V.2.2.1, V.2.2.2.1, V.2.2.2.2.1, (hrem V.2.2.2.2.2.1 V.2.1), V.2.2.2.2.2.2)) 6 _ (cH cy (ad 0 2) (fun i => ad (i + 5)) (hrem V.2.2.2.2.2.1 V.2.1)) rfl).1.symm)
          refine lv_aload_n hx hb dX5_strengthen_41 rfl (lv_at hl 0 rfl) ?_
          refine va_get (D := D) (ci := 4) (v := .ref (ad 1 0 0)) (C := RX5) (T := TX5) (N := 6) hx hb hts inX5_strengthen_X5 hown hK hP 0 rfl rfl 1 (by decide) (hts _ (List.mem_of_getElem? (i := 3) rfl)) (fun _ h9 => h9) rfl dX5_strengthen_42 ?_
          refine va_get (D := D) (ci := 2) (v := .ref (((ad 1) 0) 2)) (C := RX3) (T := TX3) (N := 11) hx hb hts inX5_strengthen_X3 hown hK hP 7 rfl rfl 1 (by decide) (hts _ (List.mem_of_getElem? (i := 5) rfl)) (fun _ h9 => h9) rfl dX5_strengthen_45 ?_
          refine lv_iload_n hx hb dX5_strengthen_48 rfl (lv_at hl 1 rfl) ?_
          refine x_aldq (v := .ref (((ad 1) 1) 0)) hx hb hK hP 9 2 rfl rfl (vp_c (by decide)) rfl dX5_strengthen_49 ?_
          refine va_get (D := D) (ci := 0) (v := .ref (((ad 1) 1) 2)) (C := RX0) (T := TX0) (N := 8) hx hb hts inX5_strengthen_X0 hown hK hP 14 rfl rfl 1 (by decide) (hts _ (List.mem_of_getElem? (i := 6) rfl)) (fun _ h9 => h9) rfl dX5_strengthen_50 ?_
          refine lv_iload_n hx hb dX5_strengthen_53 rfl (lv_at hl 2 rfl) ?_
          refine x_iald (f := (V.2.1.2.1 1)) (j := i.toNatClampNeg) hx hb hK hP 16 0 rfl rfl rfl (ckNote_of c_2 hsz2) dX5_strengthen_54 ?_
          refine lv_istore (lv' := [(4, .int ((V.2.1.2.1 1) i.toNatClampNeg)), (0, .ref (ad 0 0 0)), (1, .int (0 : Int32)), (2, .int i), (3, .int val2)]) hx hb dX5_strengthen_55 hl (by decide) rfl (fun ls hl => ?_)
          refine lv_aload_n hx hb dX5_strengthen_57 rfl (lv_at hl 1 rfl) ?_
          refine va_get (D := D) (ci := 4) (v := .ref (ad 1 0 0)) (C := RX5) (T := TX5) (N := 6) hx hb hts inX5_strengthen_X5 hown hK hP 0 rfl rfl 1 (by decide) (hts _ (List.mem_of_getElem? (i := 3) rfl)) (fun _ h9 => h9) rfl dX5_strengthen_58 ?_
          refine va_get (D := D) (ci := 2) (v := .ref (((ad 1) 0) 2)) (C := RX3) (T := TX3) (N := 11) hx hb hts inX5_strengthen_X3 hown hK hP 7 rfl rfl 1 (by decide) (hts _ (List.mem_of_getElem? (i := 5) rfl)) (fun _ h9 => h9) rfl dX5_strengthen_61 ?_
          refine lv_iload_n hx hb dX5_strengthen_64 rfl (lv_at hl 2 rfl) ?_
          refine x_aldq (v := .ref (((ad 1) 1) 0)) hx hb hK hP 9 2 rfl rfl (vp_c (by decide)) rfl dX5_strengthen_65 ?_
          refine va_get (D := D) (ci := 0) (v := .ref (((ad 1) 1) 2)) (C := RX0) (T := TX0) (N := 8) hx hb hts inX5_strengthen_X0 hown hK hP 14 rfl rfl 1 (by decide) (hts _ (List.mem_of_getElem? (i := 6) rfl)) (fun _ h9 => h9) rfl dX5_strengthen_66 ?_
          refine lv_iload_n hx hb dX5_strengthen_69 rfl (lv_at hl 3 rfl) ?_
          refine lv_iload_n hx hb dX5_strengthen_70 rfl (lv_at hl 4 rfl) ?_
          refine x_iast (j := i.toNatClampNeg) hx hb hK hP hD hS 16 0 rfl rfl rfl (ckNote_of c_2 hsz2) dX5_strengthen_71 (fun H locs hP hD hS => ?_)
          have hP : va_P D vwCl (wB cy ad (V.1, (V.2.1.1, (mkD (V.2.1.2.1 0) (upd (V.2.1.2.1 1) i.toNatClampNeg val2) (V.2.1.2.1 2) (V.2.1.2.1 3) (V.2.1.2.1 4) (V.2.1.2.1 5) (V.2.1.2.1 6 0) (V.2.1.2.1 7 0)), V.2.1.2.2), V.2.2.1, V.2.2.2.1, V.2.2.2.2.1, (hrem V.2.2.2.2.2.1 V.2.1), V.2.2.2.2.2.2)) H := hP
          have hD : va_D A (wB cy ad (V.1, (V.2.1.1, (mkD (V.2.1.2.1 0) (upd (V.2.1.2.1 1) i.toNatClampNeg val2) (V.2.1.2.1 2) (V.2.1.2.1 3) (V.2.1.2.1 4) (V.2.1.2.1 5) (V.2.1.2.1 6 0) (V.2.1.2.1 7 0)), V.2.1.2.2), V.2.2.1, V.2.2.2.1, V.2.2.2.2.1, (hrem V.2.2.2.2.2.1 V.2.1), V.2.2.2.2.2.2)) := hD
          refine lv_iload hx hb dX5_strengthen_72 (lv_at hl 0 rfl) ?_
          refine W.widen (k := 3) (n := 18) (Nat.le_of_ble_eq_true rfl) (Nat.le_of_ble_eq_true rfl) ?_
          have hr9 : (o_X5_strengthen V (0 : Int32) i val2) = ((0 : Int32), ((V.2.1.2.1 1) i.toNatClampNeg)) := by unfold o_X5_strengthen; simp only [if_pos c_1, if_pos c_2, if_pos hd0, if_neg c_3, if_true, if_false]
          have hw9 : (w_X5_strengthen V (0 : Int32) i val2) = (V.1, (V.2.1.1, (mkD (V.2.1.2.1 0) (upd (V.2.1.2.1 1) i.toNatClampNeg val2) (V.2.1.2.1 2) (V.2.1.2.1 3) (V.2.1.2.1 4) (V.2.1.2.1 5) (V.2.1.2.1 6 0) (V.2.1.2.1 7 0)), V.2.1.2.2), V.2.2.1, V.2.2.2.1, V.2.2.2.2.1, (hrem V.2.2.2.2.2.1 V.2.1), V.2.2.2.2.2.2) := by unfold w_X5_strengthen; simp only [if_pos c_1, if_pos c_2, if_pos hd0, if_neg c_3, if_true, if_false]
          exact hret _ H locs _ ls hr9 (by rw [hw9]; exact hP) (by rw [hw9]; exact hD) hS dX5_strengthen_74
        · have ho9 : (o_X5_strengthen V (0 : Int32) i val2).1 = (-9999002 : Int32) := by unfold o_X5_strengthen; simp only [if_pos c_1, if_pos c_2, if_pos hd0, if_pos c_3, if_true, if_false]
          have hw9 : (w_X5_strengthen V (0 : Int32) i val2) = V := by unfold w_X5_strengthen; simp only [if_pos c_1, if_pos c_2, if_pos hd0, if_pos c_3, if_true, if_false]
          rw [hQ]
          exact thr_2 (text := "no such strength") hx hb hlt hown (hts _ (List.mem_of_getElem? (i := 1) rfl)) (hts _ (List.mem_of_getElem? (i := 2) rfl)) (fun w hw => hts w (List.mem_cons_of_mem _ (List.mem_append_left _ (List.mem_append_right _ hw)))) (by decide +kernel) hE hS (hl.1.trans hml.symm) dX5_strengthen_20 dX5_strengthen_23 dX5_strengthen_24 dX5_strengthen_26 dX5_strengthen_29 htab (Nat.le_of_ble_eq_true rfl) (Nat.le_of_ble_eq_true rfl) (Nat.le_of_ble_eq_true rfl) (Nat.le_of_ble_eq_true rfl) hlocks hAe ho9 (by rw [hw9]; exact hP) (by rw [hw9]; exact hD) (Nat.le_of_ble_eq_true rfl) (Nat.le_of_ble_eq_true rfl)
      · subst hd
        have hd1 : ¬ (1 : Int32) = 0 := by decide
        have hl : lv_has ls 5 [(0, .ref (ad 0 0 0)), (1, .int (1 : Int32)), (2, .int i), (3, .int val2)] := hl
        refine lv_aload_n hx hb dX5_strengthen_9 rfl (lv_at hl 0 rfl) ?_
        refine va_get (D := D) (ci := 4) (v := .ref (ad 1 0 0)) (C := RX5) (T := TX5) (N := 6) hx hb hts inX5_strengthen_X5 hown hK hP 0 rfl rfl 1 (by decide) (hts _ (List.mem_of_getElem? (i := 3) rfl)) (fun _ h9 => h9) rfl dX5_strengthen_10 ?_
        refine lv_iload_n hx hb dX5_strengthen_13 rfl (lv_at hl 3 rfl) ?_
        refine cl_i (va_runV (As := [.int val2]) (rest := []) ⟨hx, hb, hml, hown, hts⟩ (c_X3_isStrength l D cy (ad 1) V.2.1 val2 H.size) (cwV 1 hts gX5_strengthen_X3_isStrength rfl rfl rfl (by decide +kernel) ⟨Nat.le_of_ble_eq_true rfl, Nat.le_of_ble_eq_true rfl⟩) ⟨blU, va_recv hK hP (ci := 2) (q0 := 7) rfl rfl, preU hP hD (pmB (bB cy ad V) 2 _ (cS cy (ad 1) V.2.1) rfl).1 hK hE hS hA⟩ rfl rfl hl.1 rfl (lv_room (Nat.le_of_ble_eq_true rfl)) dX5_strengthen_14 ⟨Nat.le_of_ble_eq_true rfl, Nat.le_of_ble_eq_true rfl⟩) hP hD (pmB (bB cy ad V) 2 _ (cS cy (ad 1) V.2.1) rfl).1 hS hA (fun H locs hP hD hS => ?_)
        have hP : va_P D vwCl (wB cy ad V) H := vP_perm hP (pmB (bB cy ad V) 2 _ (cS cy (ad 1) V.2.1) rfl).2
        have hD : va_D A (wB cy ad V) := vD_perm hD (pmB (bB cy ad V) 2 _ (cS cy (ad 1) V.2.1) rfl).2
        refine lv_if_ne (tgt := 30) hx hb dX5_strengthen_17 (by decide) (fun c_4 => ?_) (fun c_4 => ?_)
        · refine lv_aload_n hx hb dX5_strengthen_30 rfl (lv_at hl 0 rfl) ?_
          refine va_get (D := D) (ci := 4) (v := .ref (ad 0 2 0)) (C := RX5) (T := TX5) (N := 6) hx hb hts inX5_strengthen_X5 hown hK hP 0 rfl rfl 3 (by decide) (hts _ (List.mem_of_getElem? (i := 4) rfl)) (fun _ h9 => h9) rfl dX5_strengthen_31 ?_
          refine lv_aload_n hx hb dX5_strengthen_34 rfl (lv_at hl 0 rfl) ?_
          refine va_get (D := D) (ci := 4) (v := .ref (ad 1 0 0)) (C := RX5) (T := TX5) (N := 6) hx hb hts inX5_strengthen_X5 hown hK hP 0 rfl rfl 1 (by decide) (hts _ (List.mem_of_getElem? (i := 3) rfl)) (fun _ h9 => h9) rfl dX5_strengthen_35 ?_
          refine cl_n (va_runV (As := [.ref (ad 1 0 0)]) (rest := []) ⟨hx, hb, hml, hown, hts⟩ (c_X1_remember l D cy (ad 0 2) (fun i => ad (i + 5)) (ad 1) V.2.2.2.2.2.1 V.2.1 H.size hho) (cwV 1 hts gX5_strengthen_X1_remember rfl rfl rfl (by decide +kernel) ⟨Nat.le_of_ble_eq_true rfl, Nat.le_of_ble_eq_true rfl⟩) ⟨blU, va_recv hK (vP_perm hP (pmB2 (bB cy ad V) 6 2 _ _ (cH cy (ad 0 2) (fun i => ad (i + 5)) (hrem V.2.2.2.2.2.1 V.2.1)) (cS cy (ad 1) V.2.1) rfl rfl).1) (ci := 1) (q0 := 0) rfl rfl, preU hP hD (pmB2 (bB cy ad V) 6 2 _ _ (cH cy (ad 0 2) (fun i => ad (i + 5)) (hrem V.2.2.2.2.2.1 V.2.1)) (cS cy (ad 1) V.2.1) rfl rfl).1 hK hE hS hA⟩ rfl rfl hl.1 rfl (lv_room (Nat.le_of_ble_eq_true rfl)) dX5_strengthen_38 ⟨Nat.le_of_ble_eq_true rfl, Nat.le_of_ble_eq_true rfl⟩) hP hD (pmB2 (bB cy ad V) 6 2 _ _ (cH cy (ad 0 2) (fun i => ad (i + 5)) (hrem V.2.2.2.2.2.1 V.2.1)) (cS cy (ad 1) V.2.1) rfl rfl).1 hS hA (fun H locs hP hD hS => ?_)
          have hP : va_P D vwCl (wB cy ad (V.1, V.2.1, V.2.2.1, V.2.2.2.1, V.2.2.2.2.1, (hrem V.2.2.2.2.2.1 V.2.1), V.2.2.2.2.2.2)) H := vP_perm hP ((pmB2 (bB cy ad V) 6 2 _ _ (cH cy (ad 0 2) (fun i => ad (i + 5)) (hrem V.2.2.2.2.2.1 V.2.1)) (cS cy (ad 1) V.2.1) rfl rfl).2.trans (pmB (bB cy ad (V.1, V.2.1, V.2.2.1, V.2.2.2.1, V.2.2.2.2.1, (hrem V.2.2.2.2.2.1 V.2.1), V.2.2.2.2.2.2)) 6 _ (cH cy (ad 0 2) (fun i => ad (i + 5)) (hrem V.2.2.2.2.2.1 V.2.1)) rfl).1.symm)
          have hD : va_D A (wB cy ad (V.1, V.2.1, V.2.2.1, V.2.2.2.1, V.2.2.2.2.1, (hrem V.2.2.2.2.2.1 V.2.1), V.2.2.2.2.2.2)) := vD_perm hD ((pmB2 (bB cy ad V) 6 2 _ _ (cH cy (ad 0 2) (fun i => ad (i + 5)) (hrem V.2.2.2.2.2.1 V.2.1)) (cS cy (ad 1) V.2.1) rfl rfl).2.trans (pmB (bB cy ad (V.1, V.2.1, V.2.2.1, V.2.2.2.1, V.2.2.2.2.1, (hrem V.2.2.2.2.2.1 V.2.1), V.2.2.2.2.2.2)) 6 _ (cH cy (ad 0 2) (fun i => ad (i + 5)) (hrem V.2.2.2.2.2.1 V.2.1)) rfl).1.symm)
          refine lv_aload_n hx hb dX5_strengthen_41 rfl (lv_at hl 0 rfl) ?_
          refine va_get (D := D) (ci := 4) (v := .ref (ad 1 0 0)) (C := RX5) (T := TX5) (N := 6) hx hb hts inX5_strengthen_X5 hown hK hP 0 rfl rfl 1 (by decide) (hts _ (List.mem_of_getElem? (i := 3) rfl)) (fun _ h9 => h9) rfl dX5_strengthen_42 ?_
          refine va_get (D := D) (ci := 2) (v := .ref (((ad 1) 0) 2)) (C := RX3) (T := TX3) (N := 11) hx hb hts inX5_strengthen_X3 hown hK hP 7 rfl rfl 1 (by decide) (hts _ (List.mem_of_getElem? (i := 5) rfl)) (fun _ h9 => h9) rfl dX5_strengthen_45 ?_
          refine lv_iload_n hx hb dX5_strengthen_48 rfl (lv_at hl 1 rfl) ?_
          refine x_aldq (v := .ref (((ad 1) 2) 0)) hx hb hK hP 9 2 rfl rfl (vp_c (by decide)) rfl dX5_strengthen_49 ?_
          refine va_get (D := D) (ci := 0) (v := .ref (((ad 1) 2) 2)) (C := RX0) (T := TX0) (N := 8) hx hb hts inX5_strengthen_X0 hown hK hP 21 rfl rfl 1 (by decide) (hts _ (List.mem_of_getElem? (i := 6) rfl)) (fun _ h9 => h9) rfl dX5_strengthen_50 ?_
          refine lv_iload_n hx hb dX5_strengthen_53 rfl (lv_at hl 2 rfl) ?_
          refine x_iald (f := (V.2.1.2.2 1)) (j := i.toNatClampNeg) hx hb hK hP 23 0 rfl rfl rfl (ckNote_of c_2 hsz2) dX5_strengthen_54 ?_
          refine lv_istore (lv' := [(4, .int ((V.2.1.2.2 1) i.toNatClampNeg)), (0, .ref (ad 0 0 0)), (1, .int (1 : Int32)), (2, .int i), (3, .int val2)]) hx hb dX5_strengthen_55 hl (by decide) rfl (fun ls hl => ?_)
          refine lv_aload_n hx hb dX5_strengthen_57 rfl (lv_at hl 1 rfl) ?_
          refine va_get (D := D) (ci := 4) (v := .ref (ad 1 0 0)) (C := RX5) (T := TX5) (N := 6) hx hb hts inX5_strengthen_X5 hown hK hP 0 rfl rfl 1 (by decide) (hts _ (List.mem_of_getElem? (i := 3) rfl)) (fun _ h9 => h9) rfl dX5_strengthen_58 ?_
          refine va_get (D := D) (ci := 2) (v := .ref (((ad 1) 0) 2)) (C := RX3) (T := TX3) (N := 11) hx hb hts inX5_strengthen_X3 hown hK hP 7 rfl rfl 1 (by decide) (hts _ (List.mem_of_getElem? (i := 5) rfl)) (fun _ h9 => h9) rfl dX5_strengthen_61 ?_
          refine lv_iload_n hx hb dX5_strengthen_64 rfl (lv_at hl 2 rfl) ?_
          refine x_aldq (v := .ref (((ad 1) 2) 0)) hx hb hK hP 9 2 rfl rfl (vp_c (by decide)) rfl dX5_strengthen_65 ?_
          refine va_get (D := D) (ci := 0) (v := .ref (((ad 1) 2) 2)) (C := RX0) (T := TX0) (N := 8) hx hb hts inX5_strengthen_X0 hown hK hP 21 rfl rfl 1 (by decide) (hts _ (List.mem_of_getElem? (i := 6) rfl)) (fun _ h9 => h9) rfl dX5_strengthen_66 ?_
          refine lv_iload_n hx hb dX5_strengthen_69 rfl (lv_at hl 3 rfl) ?_
          refine lv_iload_n hx hb dX5_strengthen_70 rfl (lv_at hl 4 rfl) ?_
          refine x_iast (j := i.toNatClampNeg) hx hb hK hP hD hS 23 0 rfl rfl rfl (ckNote_of c_2 hsz2) dX5_strengthen_71 (fun H locs hP hD hS => ?_)
          have hP : va_P D vwCl (wB cy ad (V.1, (V.2.1.1, V.2.1.2.1, (mkD (V.2.1.2.2 0) (upd (V.2.1.2.2 1) i.toNatClampNeg val2) (V.2.1.2.2 2) (V.2.1.2.2 3) (V.2.1.2.2 4) (V.2.1.2.2 5) (V.2.1.2.2 6 0) (V.2.1.2.2 7 0))), V.2.2.1, V.2.2.2.1, V.2.2.2.2.1, (hrem V.2.2.2.2.2.1 V.2.1), V.2.2.2.2.2.2)) H := hP
          have hD : va_D A (wB cy ad (V.1, (V.2.1.1, V.2.1.2.1, (mkD (V.2.1.2.2 0) (upd (V.2.1.2.2 1) i.toNatClampNeg val2) (V.2.1.2.2 2) (V.2.1.2.2 3) (V.2.1.2.2 4) (V.2.1.2.2 5) (V.2.1.2.2 6 0) (V.2.1.2.2 7 0))), V.2.2.1, V.2.2.2.1, V.2.2.2.2.1, (hrem V.2.2.2.2.2.1 V.2.1), V.2.2.2.2.2.2)) := hD
          refine lv_iload hx hb dX5_strengthen_72 (lv_at hl 0 rfl) ?_
          refine W.widen (k := 3) (n := 18) (Nat.le_of_ble_eq_true rfl) (Nat.le_of_ble_eq_true rfl) ?_
          have hr9 : (o_X5_strengthen V (1 : Int32) i val2) = ((0 : Int32), ((V.2.1.2.2 1) i.toNatClampNeg)) := by unfold o_X5_strengthen; simp only [if_pos c_1, if_pos c_2, if_neg hd1, if_neg c_4, if_true, if_false]
          have hw9 : (w_X5_strengthen V (1 : Int32) i val2) = (V.1, (V.2.1.1, V.2.1.2.1, (mkD (V.2.1.2.2 0) (upd (V.2.1.2.2 1) i.toNatClampNeg val2) (V.2.1.2.2 2) (V.2.1.2.2 3) (V.2.1.2.2 4) (V.2.1.2.2 5) (V.2.1.2.2 6 0) (V.2.1.2.2 7 0))), V.2.2.1, V.2.2.2.1, V.2.2.2.2.1, (hrem V.2.2.2.2.2.1 V.2.1), V.2.2.2.2.2.2) := by unfold w_X5_strengthen; simp only [if_pos c_1, if_pos c_2, if_neg hd1, if_neg c_4, if_true, if_false]
          exact hret _ H locs _ ls hr9 (by rw [hw9]; exact hP) (by rw [hw9]; exact hD) hS dX5_strengthen_74
        · have ho9 : (o_X5_strengthen V (1 : Int32) i val2).1 = (-9999002 : Int32) := by unfold o_X5_strengthen; simp only [if_pos c_1, if_pos c_2, if_neg hd1, if_pos c_4, if_true, if_false]
          have hw9 : (w_X5_strengthen V (1 : Int32) i val2) = V := by unfold w_X5_strengthen; simp only [if_pos c_1, if_pos c_2, if_neg hd1, if_pos c_4, if_true, if_false]
          rw [hQ]
          exact thr_2 (text := "no such strength") hx hb hlt hown (hts _ (List.mem_of_getElem? (i := 1) rfl)) (hts _ (List.mem_of_getElem? (i := 2) rfl)) (fun w hw => hts w (List.mem_cons_of_mem _ (List.mem_append_left _ (List.mem_append_right _ hw)))) (by decide +kernel) hE hS (hl.1.trans hml.symm) dX5_strengthen_20 dX5_strengthen_23 dX5_strengthen_24 dX5_strengthen_26 dX5_strengthen_29 htab (Nat.le_of_ble_eq_true rfl) (Nat.le_of_ble_eq_true rfl) (Nat.le_of_ble_eq_true rfl) (Nat.le_of_ble_eq_true rfl) hlocks hAe ho9 (by rw [hw9]; exact hP) (by rw [hw9]; exact hD) (Nat.le_of_ble_eq_true rfl) (Nat.le_of_ble_eq_true rfl)

def o_X5_branch (V : BV) (pl : Int32) (tk : Int32) : Int32 × Int32 := (if (o_X5_checkPlace pl) = 0 then ((0 : Int32), (r_X3_go V.2.1 pl tk)) else ((o_X5_checkPlace pl), (0 : Int32)))
def w_X5_branch (V : BV) (pl : Int32) (tk : Int32) : BV := (if (o_X5_checkPlace pl) = 0 then (V.1, (w_X3_go V.2.1 pl tk), V.2.2.1, V.2.2.2.1, V.2.2.2.2.1, (hrem V.2.2.2.2.2.1 V.2.1), V.2.2.2.2.2.2) else V)
abbrev rX5_branch : Room := { frames := 7, cells := 1, slots := 6, locals := 124 }
theorem inX5_branch_X5 : ∀ w ∈ u_ws RX5 TX5 6, w ∈ wsX5_branch := by decide +kernel
set_option maxHeartbeats 4000000 in
set_option maxRecDepth 100000 in
theorem c_X5_branch (l : Launch) (hlt : l.stackTraces = false) (D : va_G) (cy : Nat → ClassId) (ad : AD) (V : BV) (pl : Int32) (tk : Int32) (sz : Nat) (hho : hok V.2.2.2.2.2.1) (hsz2 : szok (V.2.1.1 0 0)) : CX l yX5_branch wsX5_branch rX5_branch D cy [.ref (ad 0 0 0), .int pl, .int tk] (wB cy ad V) sz (o_X5_branch V pl tk) (wB cy ad (w_X5_branch V pl tk)) 1 6 := by
  refine stx_i (ty := .boolean) (cc := cX5_branch) (maxL := 3) (by decide) rfl (by unfold o_X5_branch; split <;> first | exact zn_X3_go _ _ _ | (show narrow .boolean (.int (0 : Int32)) = .int (0 : Int32); rfl)) (Nat.le_of_ble_eq_true rfl) ?_
  intro pp e s m below meth c A Q ls hx hb hts hown hml hlocks htab hsz hP hK hD hE hA hl hAe hQ hret hout
  subst hsz
  have hown : s.vm.findClass RX5 = some m.cls := hown
  have hl : lv_has ls 3 [(0, .ref (ad 0 0 0)), (1, .int pl), (2, .int tk)] := hl
  obtain ⟨H, hH⟩ : ∃ H, H = s.heap := ⟨_, rfl⟩
  rw [← hH] at hP ⊢
  have hS : va_S A s.heap H [] := by rw [hH]; exact va_S.rf
  obtain ⟨locs, hlo⟩ : ∃ locs : List Loc, locs = [] := ⟨_, rfl⟩
  rw [← hlo] at hS ⊢
  refine lv_iload_n hx hb dX5_branch_0 rfl (lv_at hl 1 rfl) ?_
  refine clx_n (vx_runS (As := [.int pl]) (rest := []) ⟨hx, hb, hml, hown, hts⟩ (c_X5_checkPlace l hlt D cy pl H.size) (va_cwS 1 hts gX5_branch_X5_checkPlace rfl rfl rfl (by decide +kernel) ⟨Nat.le_of_ble_eq_true rfl, Nat.le_of_ble_eq_true rfl⟩) ⟨blU, preU hP hD (List.Perm.refl _) hK hE hS hA⟩ rfl rfl hl.1 rfl (lv_room (Nat.le_of_ble_eq_true rfl)) dX5_branch_1 ⟨Nat.le_of_ble_eq_true rfl, Nat.le_of_ble_eq_true rfl⟩) hP hD (List.Perm.refl _) hS hA (fun c_1 q9 ce H locs hq hv hcl hP hD hS => ?_) (fun c_1 H locs hP hD hS => ?_)
  · have hP : va_P D vwCl (wB cy ad V) H := vP_perm hP (List.Perm.refl _)
    have hD : va_D A (wB cy ad V) := vD_perm hD (List.Perm.refl _)
    have ho9 : (o_X5_branch V pl tk).1 = (o_X5_checkPlace pl) := by unfold o_X5_branch; simp only [if_neg c_1, if_true, if_false]
    have hw9 : (w_X5_branch V pl tk) = V := by unfold w_X5_branch; simp only [if_neg c_1, if_true, if_false]
    exact vx_widen (k := 1) (n := 6) (Nat.le_of_ble_eq_true rfl) (Nat.le_of_ble_eq_true rfl) (hout _ q9 ce H locs _ ls _ ho9 c_1 hq hv hcl (by rw [hw9]; exact hP) (by rw [hw9]; exact hD) hS)
  · have hP : va_P D vwCl (wB cy ad V) H := vP_perm hP (List.Perm.refl _)
    have hD : va_D A (wB cy ad V) := vD_perm hD (List.Perm.refl _)
    refine lv_aload_n hx hb dX5_branch_4 rfl (lv_at hl 0 rfl) ?_
    refine va_get (D := D) (ci := 4) (v := .ref (ad 0 2 0)) (C := RX5) (T := TX5) (N := 6) hx hb hts inX5_branch_X5 hown hK hP 0 rfl rfl 3 (by decide) (hts _ (List.mem_of_getElem? (i := 1) rfl)) (fun _ h9 => h9) rfl dX5_branch_5 ?_
    refine lv_aload_n hx hb dX5_branch_8 rfl (lv_at hl 0 rfl) ?_
    refine va_get (D := D) (ci := 4) (v := .ref (ad 1 0 0)) (C := RX5) (T := TX5) (N := 6) hx hb hts inX5_branch_X5 hown hK hP 0 rfl rfl 1 (by decide) (hts _ (List.mem_of_getElem? (i := 2) rfl)) (fun _ h9 => h9) rfl dX5_branch_9 ?_
    refine cl_n (va_runV (As := [.ref (ad 1 0 0)]) (rest := []) ⟨hx, hb, hml, hown, hts⟩ (c_X1_remember l D cy (ad 0 2) (fun i => ad (i + 5)) (ad 1) V.2.2.2.2.2.1 V.2.1 H.size hho) (cwV 1 hts gX5_branch_X1_remember rfl rfl rfl (by decide +kernel) ⟨Nat.le_of_ble_eq_true rfl, Nat.le_of_ble_eq_true rfl⟩) ⟨blU, va_recv hK (vP_perm hP (pmB2 (bB cy ad V) 6 2 _ _ (cH cy (ad 0 2) (fun i => ad (i + 5)) (hrem V.2.2.2.2.2.1 V.2.1)) (cS cy (ad 1) V.2.1) rfl rfl).1) (ci := 1) (q0 := 0) rfl rfl, preU hP hD (pmB2 (bB cy ad V) 6 2 _ _ (cH cy (ad 0 2) (fun i => ad (i + 5)) (hrem V.2.2.2.2.2.1 V.2.1)) (cS cy (ad 1) V.2.1) rfl rfl).1 hK hE hS hA⟩ rfl rfl hl.1 rfl (lv_room (Nat.le_of_ble_eq_true rfl)) dX5_branch_12 ⟨Nat.le_of_ble_eq_true rfl, Nat.le_of_ble_eq_true rfl⟩) hP hD (pmB2 (bB cy ad V) 6 2 _ _ (cH cy (ad 0 2) (fun i => ad (i + 5)) (hrem V.2.2.2.2.2.1 V.2.1)) (cS cy (ad 1) V.2.1) rfl rfl).1 hS hA (fun H locs hP hD hS => ?_)
    have hP : va_P D vwCl (wB cy ad (V.1, V.2.1, V.2.2.1, V.2.2.2.1, V.2.2.2.2.1, (hrem V.2.2.2.2.2.1 V.2.1), V.2.2.2.2.2.2)) H := vP_perm hP ((pmB2 (bB cy ad V) 6 2 _ _ (cH cy (ad 0 2) (fun i => ad (i + 5)) (hrem V.2.2.2.2.2.1 V.2.1)) (cS cy (ad 1) V.2.1) rfl rfl).2.trans (pmB (bB cy ad (V.1, V.2.1, V.2.2.1, V.2.2.2.1, V.2.2.2.2.1, (hrem V.2.2.2.2.2.1 V.2.1), V.2.2.2.2.2.2)) 6 _ (cH cy (ad 0 2) (fun i => ad (i + 5)) (hrem V.2.2.2.2.2.1 V.2.1)) rfl).1.symm)
    have hD : va_D A (wB cy ad (V.1, V.2.1, V.2.2.1, V.2.2.2.1, V.2.2.2.2.1, (hrem V.2.2.2.2.2.1 V.2.1), V.2.2.2.2.2.2)) := vD_perm hD ((pmB2 (bB cy ad V) 6 2 _ _ (cH cy (ad 0 2) (fun i => ad (i + 5)) (hrem V.2.2.2.2.2.1 V.2.1)) (cS cy (ad 1) V.2.1) rfl rfl).2.trans (pmB (bB cy ad (V.1, V.2.1, V.2.2.1, V.2.2.2.1, V.2.2.2.2.1, (hrem V.2.2.2.2.2.1 V.2.1), V.2.2.2.2.2.2)) 6 _ (cH cy (ad 0 2) (fun i => ad (i + 5)) (hrem V.2.2.2.2.2.1 V.2.1)) rfl).1.symm)
    refine lv_aload_n hx hb dX5_branch_15 rfl (lv_at hl 0 rfl) ?_
    refine va_get (D := D) (ci := 4) (v := .ref (ad 1 0 0)) (C := RX5) (T := TX5) (N := 6) hx hb hts inX5_branch_X5 hown hK hP 0 rfl rfl 1 (by decide) (hts _ (List.mem_of_getElem? (i := 2) rfl)) (fun _ h9 => h9) rfl dX5_branch_16 ?_
    refine lv_iload_n hx hb dX5_branch_19 rfl (lv_at hl 1 rfl) ?_
    refine lv_iload_n hx hb dX5_branch_20 rfl (lv_at hl 2 rfl) ?_
    refine cl_i (va_runV (As := [.int pl, .int tk]) (rest := []) ⟨hx, hb, hml, hown, hts⟩ (c_X3_go l D cy (ad 1) V.2.1 pl tk H.size (ckPlace_of c_1) hsz2) (cwV 2 hts gX5_branch_X3_go rfl rfl rfl (by decide +kernel) ⟨Nat.le_of_ble_eq_true rfl, Nat.le_of_ble_eq_true rfl⟩) ⟨blU, va_recv hK hP (ci := 2) (q0 := 7) rfl rfl, preU hP hD (pmB (bB cy ad (V.1, V.2.1, V.2.2.1, V.2.2.2.1, V.2.2.2.2.1, (hrem V.2.2.2.2.2.1 V.2.1), V.2.2.2.2.2.2)) 2 _ (cS cy (ad 1) (w_X3_go V.2.1 pl tk)) rfl).1 hK hE hS hA⟩ rfl rfl hl.1 rfl (lv_room (Nat.le_of_ble_eq_true rfl)) dX5_branch_21 ⟨Nat.le_of_ble_eq_true rfl, Nat.le_of_ble_eq_true rfl⟩) hP hD (pmB (bB cy ad (V.1, V.2.1, V.2.2.1, V.2.2.2.1, V.2.2.2.2.1, (hrem V.2.2.2.2.2.1 V.2.1), V.2.2.2.2.2.2)) 2 _ (cS cy (ad 1) (w_X3_go V.2.1 pl tk)) rfl).1 hS hA (fun H locs hP hD hS => ?_)
    have hP : va_P D vwCl (wB cy ad (V.1, (w_X3_go V.2.1 pl tk), V.2.2.1, V.2.2.2.1, V.2.2.2.2.1, (hrem V.2.2.2.2.2.1 V.2.1), V.2.2.2.2.2.2)) H := vP_perm hP (pmB (bB cy ad (V.1, V.2.1, V.2.2.1, V.2.2.2.1, V.2.2.2.2.1, (hrem V.2.2.2.2.2.1 V.2.1), V.2.2.2.2.2.2)) 2 _ (cS cy (ad 1) (w_X3_go V.2.1 pl tk)) rfl).2
    have hD : va_D A (wB cy ad (V.1, (w_X3_go V.2.1 pl tk), V.2.2.1, V.2.2.2.1, V.2.2.2.2.1, (hrem V.2.2.2.2.2.1 V.2.1), V.2.2.2.2.2.2)) := vD_perm hD (pmB (bB cy ad (V.1, V.2.1, V.2.2.1, V.2.2.2.1, V.2.2.2.2.1, (hrem V.2.2.2.2.2.1 V.2.1), V.2.2.2.2.2.2)) 2 _ (cS cy (ad 1) (w_X3_go V.2.1 pl tk)) rfl).2
    have hr9 : (o_X5_branch V pl tk) = ((0 : Int32), (r_X3_go V.2.1 pl tk)) := by unfold o_X5_branch; simp only [if_pos c_1, if_true, if_false]
    have hw9 : (w_X5_branch V pl tk) = (V.1, (w_X3_go V.2.1 pl tk), V.2.2.1, V.2.2.2.1, V.2.2.2.2.1, (hrem V.2.2.2.2.2.1 V.2.1), V.2.2.2.2.2.2) := by unfold w_X5_branch; simp only [if_pos c_1, if_true, if_false]
    exact hret _ H locs _ ls hr9 (by rw [hw9]; exact hP) (by rw [hw9]; exact hD) hS dX5_branch_24

def o_X5_play (V : BV)  : Int32 × Int32 := (if (r_X4_isPlayable V.1) = 0 then ((-9999003 : Int32), (0 : Int32)) else ((0 : Int32), (((w_X3_goAll V.2.1 (w_X4_isPlayable V.1)).1 6 0) - (V.2.1.1 6 0))))
def w_X5_play (V : BV)  : BV := (if (r_X4_isPlayable V.1) = 0 then ((w_X4_isPlayable V.1), V.2.1, V.2.2.1, V.2.2.2.1, V.2.2.2.2.1, V.2.2.2.2.2.1, V.2.2.2.2.2.2) else ((w_X4_isPlayable V.1), (w_X3_goAll V.2.1 (w_X4_isPlayable V.1)), V.2.2.1, V.2.2.2.1, V.2.2.2.2.1, (hrem V.2.2.2.2.2.1 V.2.1), V.2.2.2.2.2.2))
abbrev rX5_play : Room := { frames := 6, cells := 1, slots := 6, locals := 124 }
theorem inX5_play_X3 : ∀ w ∈ u_ws RX3 TX3 11, w ∈ wsX5_play := by decide +kernel
theorem inX5_play_X5 : ∀ w ∈ u_ws RX5 TX5 6, w ∈ wsX5_play := by decide +kernel
set_option maxHeartbeats 4000000 in
set_option maxRecDepth 100000 in
theorem c_X5_play (l : Launch) (hlt : l.stackTraces = false) (D : va_G) (cy : Nat → ClassId) (ad : AD) (V : BV)  (sz : Nat) (hho : hok V.2.2.2.2.2.1) (hsz2 : szok (V.2.1.1 0 0)) (hlen : ∃ n, n ≤ 80 ∧ V.1 3 0 = nI n) (hg : ∃ g, g < 26 ∧ V.1 6 0 = nI g) : CX l yX5_play wsX5_play rX5_play D cy [.ref (ad 0 0 0)] (wB cy ad V) sz (o_X5_play V) (wB cy ad (w_X5_play V)) 1 6 := by
  refine stx_i (ty := .int) (cc := cX5_play) (maxL := 2) (by decide) rfl rfl (Nat.le_of_ble_eq_true rfl) ?_
  intro pp e s m below meth c A Q ls hx hb hts hown hml hlocks htab hsz hP hK hD hE hA hl hAe hQ hret hout
  subst hsz
  have hown : s.vm.findClass RX5 = some m.cls := hown
  have hl : lv_has ls 2 [(0, .ref (ad 0 0 0))] := hl
  obtain ⟨H, hH⟩ : ∃ H, H = s.heap := ⟨_, rfl⟩
  rw [← hH] at hP ⊢
  have hS : va_S A s.heap H [] := by rw [hH]; exact va_S.rf
  obtain ⟨locs, hlo⟩ : ∃ locs : List Loc, locs = [] := ⟨_, rfl⟩
  rw [← hlo] at hS ⊢
  refine lv_aload_n hx hb dX5_play_0 rfl (lv_at hl 0 rfl) ?_
  refine va_get (D := D) (ci := 4) (v := .ref (ad 0 1 0)) (C := RX5) (T := TX5) (N := 6) hx hb hts inX5_play_X5 hown hK hP 0 rfl rfl 0 (by decide) (hts _ (List.mem_of_getElem? (i := 3) rfl)) (fun _ h9 => h9) rfl dX5_play_1 ?_
  refine cl_i (va_runV (As := []) (rest := []) ⟨hx, hb, hml, hown, hts⟩ (c_X4_isPlayable l D cy (ad 0 1) V.1 H.size hlen hg) (cwV 0 hts gX5_play_X4_isPlayable rfl rfl rfl (by decide +kernel) ⟨Nat.le_of_ble_eq_true rfl, Nat.le_of_ble_eq_true rfl⟩) ⟨blU, va_recv hK hP (ci := 3) (q0 := 3) rfl rfl, preU hP hD (pmB (bB cy ad V) 1 _ (cT cy (ad 0 1) (w_X4_isPlayable V.1)) rfl).1 hK hE hS hA⟩ rfl rfl hl.1 rfl (lv_room (Nat.le_of_ble_eq_true rfl)) dX5_play_4 ⟨Nat.le_of_ble_eq_true rfl, Nat.le_of_ble_eq_true rfl⟩) hP hD (pmB (bB cy ad V) 1 _ (cT cy (ad 0 1) (w_X4_isPlayable V.1)) rfl).1 hS hA (fun H locs hP hD hS => ?_)
  have hP : va_P D vwCl (wB cy ad ((w_X4_isPlayable V.1), V.2.1, V.2.2.1, V.2.2.2.1, V.2.2.2.2.1, V.2.2.2.2.2.1, V.2.2.2.2.2.2)) H := vP_perm hP (pmB (bB cy ad V) 1 _ (cT cy (ad 0 1) (w_X4_isPlayable V.1)) rfl).2
  have hD : va_D A (wB cy ad ((w_X4_isPlayable V.1), V.2.1, V.2.2.1, V.2.2.2.1, V.2.2.2.2.1, V.2.2.2.2.2.1, V.2.2.2.2.2.2)) := vD_perm hD (pmB (bB cy ad V) 1 _ (cT cy (ad 0 1) (w_X4_isPlayable V.1)) rfl).2
  refine lv_if_ne (tgt := 20) hx hb dX5_play_7 (by decide) (fun c_1 => ?_) (fun c_1 => ?_)
  · refine lv_aload_n hx hb dX5_play_20 rfl (lv_at hl 0 rfl) ?_
    refine va_get (D := D) (ci := 4) (v := .ref (ad 0 2 0)) (C := RX5) (T := TX5) (N := 6) hx hb hts inX5_play_X5 hown hK hP 0 rfl rfl 3 (by decide) (hts _ (List.mem_of_getElem? (i := 4) rfl)) (fun _ h9 => h9) rfl dX5_play_21 ?_
    refine lv_aload_n hx hb dX5_play_24 rfl (lv_at hl 0 rfl) ?_
    refine va_get (D := D) (ci := 4) (v := .ref (ad 1 0 0)) (C := RX5) (T := TX5) (N := 6) hx hb hts inX5_play_X5 hown hK hP 0 rfl rfl 1 (by decide) (hts _ (List.mem_of_getElem? (i := 5) rfl)) (fun _ h9 => h9) rfl dX5_play_25 ?_
    refine cl_n (va_runV (As := [.ref (ad 1 0 0)]) (rest := []) ⟨hx, hb, hml, hown, hts⟩ (c_X1_remember l D cy (ad 0 2) (fun i => ad (i + 5)) (ad 1) V.2.2.2.2.2.1 V.2.1 H.size hho) (cwV 1 hts gX5_play_X1_remember rfl rfl rfl (by decide +kernel) ⟨Nat.le_of_ble_eq_true rfl, Nat.le_of_ble_eq_true rfl⟩) ⟨blU, va_recv hK (vP_perm hP (pmB2 (bB cy ad ((w_X4_isPlayable V.1), V.2.1, V.2.2.1, V.2.2.2.1, V.2.2.2.2.1, V.2.2.2.2.2.1, V.2.2.2.2.2.2)) 6 2 _ _ (cH cy (ad 0 2) (fun i => ad (i + 5)) (hrem V.2.2.2.2.2.1 V.2.1)) (cS cy (ad 1) V.2.1) rfl rfl).1) (ci := 1) (q0 := 0) rfl rfl, preU hP hD (pmB2 (bB cy ad ((w_X4_isPlayable V.1), V.2.1, V.2.2.1, V.2.2.2.1, V.2.2.2.2.1, V.2.2.2.2.2.1, V.2.2.2.2.2.2)) 6 2 _ _ (cH cy (ad 0 2) (fun i => ad (i + 5)) (hrem V.2.2.2.2.2.1 V.2.1)) (cS cy (ad 1) V.2.1) rfl rfl).1 hK hE hS hA⟩ rfl rfl hl.1 rfl (lv_room (Nat.le_of_ble_eq_true rfl)) dX5_play_28 ⟨Nat.le_of_ble_eq_true rfl, Nat.le_of_ble_eq_true rfl⟩) hP hD (pmB2 (bB cy ad ((w_X4_isPlayable V.1), V.2.1, V.2.2.1, V.2.2.2.1, V.2.2.2.2.1, V.2.2.2.2.2.1, V.2.2.2.2.2.2)) 6 2 _ _ (cH cy (ad 0 2) (fun i => ad (i + 5)) (hrem V.2.2.2.2.2.1 V.2.1)) (cS cy (ad 1) V.2.1) rfl rfl).1 hS hA (fun H locs hP hD hS => ?_)
    have hP : va_P D vwCl (wB cy ad ((w_X4_isPlayable V.1), V.2.1, V.2.2.1, V.2.2.2.1, V.2.2.2.2.1, (hrem V.2.2.2.2.2.1 V.2.1), V.2.2.2.2.2.2)) H := vP_perm hP ((pmB2 (bB cy ad ((w_X4_isPlayable V.1), V.2.1, V.2.2.1, V.2.2.2.1, V.2.2.2.2.1, V.2.2.2.2.2.1, V.2.2.2.2.2.2)) 6 2 _ _ (cH cy (ad 0 2) (fun i => ad (i + 5)) (hrem V.2.2.2.2.2.1 V.2.1)) (cS cy (ad 1) V.2.1) rfl rfl).2.trans (pmB (bB cy ad ((w_X4_isPlayable V.1), V.2.1, V.2.2.1, V.2.2.2.1, V.2.2.2.2.1, (hrem V.2.2.2.2.2.1 V.2.1), V.2.2.2.2.2.2)) 6 _ (cH cy (ad 0 2) (fun i => ad (i + 5)) (hrem V.2.2.2.2.2.1 V.2.1)) rfl).1.symm)
    have hD : va_D A (wB cy ad ((w_X4_isPlayable V.1), V.2.1, V.2.2.1, V.2.2.2.1, V.2.2.2.2.1, (hrem V.2.2.2.2.2.1 V.2.1), V.2.2.2.2.2.2)) := vD_perm hD ((pmB2 (bB cy ad ((w_X4_isPlayable V.1), V.2.1, V.2.2.1, V.2.2.2.1, V.2.2.2.2.1, V.2.2.2.2.2.1, V.2.2.2.2.2.2)) 6 2 _ _ (cH cy (ad 0 2) (fun i => ad (i + 5)) (hrem V.2.2.2.2.2.1 V.2.1)) (cS cy (ad 1) V.2.1) rfl rfl).2.trans (pmB (bB cy ad ((w_X4_isPlayable V.1), V.2.1, V.2.2.1, V.2.2.2.1, V.2.2.2.2.1, (hrem V.2.2.2.2.2.1 V.2.1), V.2.2.2.2.2.2)) 6 _ (cH cy (ad 0 2) (fun i => ad (i + 5)) (hrem V.2.2.2.2.2.1 V.2.1)) rfl).1.symm)
    refine lv_aload_n hx hb dX5_play_31 rfl (lv_at hl 0 rfl) ?_
    refine va_get (D := D) (ci := 4) (v := .ref (ad 1 0 0)) (C := RX5) (T := TX5) (N := 6) hx hb hts inX5_play_X5 hown hK hP 0 rfl rfl 1 (by decide) (hts _ (List.mem_of_getElem? (i := 5) rfl)) (fun _ h9 => h9) rfl dX5_play_32 ?_
    refine va_get (D := D) (ci := 2) (v := .int (V.2.1.1 6 0)) (C := RX3) (T := TX3) (N := 11) hx hb hts inX5_play_X3 hown hK hP 7 rfl rfl 7 (by decide) (hts _ (List.mem_of_getElem? (i := 6) rfl)) (fun _ h9 => h9) rfl dX5_play_35 ?_
    refine lv_istore_n (lv' := [(1, .int (V.2.1.1 6 0)), (0, .ref (ad 0 0 0))]) hx hb dX5_play_38 rfl hl (by decide) rfl (fun ls hl => ?_)
    refine lv_aload_n hx hb dX5_play_39 rfl (lv_at hl 1 rfl) ?_
    refine va_get (D := D) (ci := 4) (v := .ref (ad 1 0 0)) (C := RX5) (T := TX5) (N := 6) hx hb hts inX5_play_X5 hown hK hP 0 rfl rfl 1 (by decide) (hts _ (List.mem_of_getElem? (i := 5) rfl)) (fun _ h9 => h9) rfl dX5_play_40 ?_
    refine lv_aload_n hx hb dX5_play_43 rfl (lv_at hl 1 rfl) ?_
    refine va_get (D := D) (ci := 4) (v := .ref (ad 0 1 0)) (C := RX5) (T := TX5) (N := 6) hx hb hts inX5_play_X5 hown hK hP 0 rfl rfl 0 (by decide) (hts _ (List.mem_of_getElem? (i := 3) rfl)) (fun _ h9 => h9) rfl dX5_play_44 ?_
    refine cl_n (va_runV (As := [.ref (ad 0 1 0)]) (rest := []) ⟨hx, hb, hml, hown, hts⟩ (c_X3_goAll l D cy (ad 1) (ad 0 1) V.2.1 (w_X4_isPlayable V.1) H.size hsz2 (stepok_of hlen hg c_1)) (cwV 1 hts gX5_play_X3_goAll rfl rfl rfl (by decide +kernel) ⟨Nat.le_of_ble_eq_true rfl, Nat.le_of_ble_eq_true rfl⟩) ⟨blU, va_recv hK hP (ci := 2) (q0 := 7) rfl rfl, preU hP hD (pmB2 (bB cy ad ((w_X4_isPlayable V.1), V.2.1, V.2.2.1, V.2.2.2.1, V.2.2.2.2.1, (hrem V.2.2.2.2.2.1 V.2.1), V.2.2.2.2.2.2)) 2 1 _ _ (cS cy (ad 1) (w_X3_goAll V.2.1 (w_X4_isPlayable V.1))) (cT cy (ad 0 1) (w_X4_isPlayable V.1)) rfl rfl).1 hK hE hS hA⟩ rfl rfl hl.1 rfl (lv_room (Nat.le_of_ble_eq_true rfl)) dX5_play_47 ⟨Nat.le_of_ble_eq_true rfl, Nat.le_of_ble_eq_true rfl⟩) hP hD (pmB2 (bB cy ad ((w_X4_isPlayable V.1), V.2.1, V.2.2.1, V.2.2.2.1, V.2.2.2.2.1, (hrem V.2.2.2.2.2.1 V.2.1), V.2.2.2.2.2.2)) 2 1 _ _ (cS cy (ad 1) (w_X3_goAll V.2.1 (w_X4_isPlayable V.1))) (cT cy (ad 0 1) (w_X4_isPlayable V.1)) rfl rfl).1 hS hA (fun H locs hP hD hS => ?_)
    have hP : va_P D vwCl (wB cy ad ((w_X4_isPlayable V.1), (w_X3_goAll V.2.1 (w_X4_isPlayable V.1)), V.2.2.1, V.2.2.2.1, V.2.2.2.2.1, (hrem V.2.2.2.2.2.1 V.2.1), V.2.2.2.2.2.2)) H := vP_perm hP ((pmB2 (bB cy ad ((w_X4_isPlayable V.1), V.2.1, V.2.2.1, V.2.2.2.1, V.2.2.2.2.1, (hrem V.2.2.2.2.2.1 V.2.1), V.2.2.2.2.2.2)) 2 1 _ _ (cS cy (ad 1) (w_X3_goAll V.2.1 (w_X4_isPlayable V.1))) (cT cy (ad 0 1) (w_X4_isPlayable V.1)) rfl rfl).2.trans (pmB (bB cy ad ((w_X4_isPlayable V.1), (w_X3_goAll V.2.1 (w_X4_isPlayable V.1)), V.2.2.1, V.2.2.2.1, V.2.2.2.2.1, (hrem V.2.2.2.2.2.1 V.2.1), V.2.2.2.2.2.2)) 2 _ (cS cy (ad 1) (w_X3_goAll V.2.1 (w_X4_isPlayable V.1))) rfl).1.symm)
    have hD : va_D A (wB cy ad ((w_X4_isPlayable V.1), (w_X3_goAll V.2.1 (w_X4_isPlayable V.1)), V.2.2.1, V.2.2.2.1, V.2.2.2.2.1, (hrem V.2.2.2.2.2.1 V.2.1), V.2.2.2.2.2.2)) := vD_perm hD ((pmB2 (bB cy ad ((w_X4_isPlayable V.1), V.2.1, V.2.2.1, V.2.2.2.1, V.2.2.2.2.1, (hrem V.2.2.2.2.2.1 V.2.1), V.2.2.2.2.2.2)) 2 1 _ _ (cS cy (ad 1) (w_X3_goAll V.2.1 (w_X4_isPlayable V.1))) (cT cy (ad 0 1) (w_X4_isPlayable V.1)) rfl rfl).2.trans (pmB (bB cy ad ((w_X4_isPlayable V.1), (w_X3_goAll V.2.1 (w_X4_isPlayable V.1)), V.2.2.1, V.2.2.2.1, V.2.2.2.2.1, (hrem V.2.2.2.2.2.1 V.2.1), V.2.2.2.2.2.2)) 2 _ (cS cy (ad 1) (w_X3_goAll V.2.1 (w_X4_isPlayable V.1))) rfl).1.symm)
    refine lv_aload_n hx hb dX5_play_50 rfl (lv_at hl 1 rfl) ?_
    refine va_get (D := D) (ci := 4) (v := .ref (ad 1 0 0)) (C := RX5) (T := TX5) (N := 6) hx hb hts inX5_play_X5 hown hK hP 0 rfl rfl 1 (by decide) (hts _ (List.mem_of_getElem? (i := 5) rfl)) (fun _ h9 => h9) rfl dX5_play_51 ?_
    refine va_get (D := D) (ci := 2) (v := .int ((w_X3_goAll V.2.1 (w_X4_isPlayable V.1)).1 6 0)) (C := RX3) (T := TX3) (N := 11) hx hb hts inX5_play_X3 hown hK hP 7 rfl rfl 7 (by decide) (hts _ (List.mem_of_getElem? (i := 6) rfl)) (fun _ h9 => h9) rfl dX5_play_54 ?_
    refine lv_iload_n hx hb dX5_play_57 rfl (lv_at hl 0 rfl) ?_
    refine lv_isub hx hb dX5_play_58 ?_
    refine W.widen (k := 1) (n := 6) (Nat.le_of_ble_eq_true rfl) (Nat.le_of_ble_eq_true rfl) ?_
    have hr9 : (o_X5_play V) = ((0 : Int32), (((w_X3_goAll V.2.1 (w_X4_isPlayable V.1)).1 6 0) - (V.2.1.1 6 0))) := by unfold o_X5_play; simp only [if_neg c_1, if_true, if_false]
    have hw9 : (w_X5_play V) = ((w_X4_isPlayable V.1), (w_X3_goAll V.2.1 (w_X4_isPlayable V.1)), V.2.2.1, V.2.2.2.1, V.2.2.2.2.1, (hrem V.2.2.2.2.2.1 V.2.1), V.2.2.2.2.2.2) := by unfold w_X5_play; simp only [if_neg c_1, if_true, if_false]
    exact hret _ H locs _ ls hr9 (by rw [hw9]; exact hP) (by rw [hw9]; exact hD) hS dX5_play_59
  · have ho9 : (o_X5_play V).1 = (-9999003 : Int32) := by unfold o_X5_play; simp only [if_pos c_1, if_true, if_false]
    have hw9 : (w_X5_play V) = ((w_X4_isPlayable V.1), V.2.1, V.2.2.1, V.2.2.2.1, V.2.2.2.2.1, V.2.2.2.2.2.1, V.2.2.2.2.2.2) := by unfold w_X5_play; simp only [if_pos c_1, if_true, if_false]
    rw [hQ]
    exact thr_3 (text := "the text can't be played") hx hb hlt hown (hts _ (List.mem_of_getElem? (i := 1) rfl)) (hts _ (List.mem_of_getElem? (i := 2) rfl)) (fun w hw => hts w (List.mem_cons_of_mem _ (List.mem_append_right _ hw))) (by decide +kernel) hE hS (hl.1.trans hml.symm) dX5_play_10 dX5_play_13 dX5_play_14 dX5_play_16 dX5_play_19 htab (Nat.le_of_ble_eq_true rfl) (Nat.le_of_ble_eq_true rfl) (Nat.le_of_ble_eq_true rfl) (Nat.le_of_ble_eq_true rfl) hlocks hAe ho9 (by rw [hw9]; exact hP) (by rw [hw9]; exact hD) (Nat.le_of_ble_eq_true rfl) (Nat.le_of_ble_eq_true rfl)

def o_X5_undo (V : BV)  : Int32 × Int32 := (if (if V.2.2.2.2.2.1.2.1 = 0 then (0 : Int32) else 1) = 0 then ((-9999003 : Int32), (0 : Int32)) else ((0 : Int32), (nI (if V.2.2.2.2.2.1.2.1 = 0 then V.2.2.2.2.2.1 else hpop V.2.2.2.2.2.1).2.1)))
def w_X5_undo (V : BV)  : BV := (if (if V.2.2.2.2.2.1.2.1 = 0 then (0 : Int32) else 1) = 0 then (V.1, (if V.2.2.2.2.2.1.2.1 = 0 then V.2.1 else htop V.2.2.2.2.2.1), V.2.2.1, V.2.2.2.1, V.2.2.2.2.1, (if V.2.2.2.2.2.1.2.1 = 0 then V.2.2.2.2.2.1 else hpop V.2.2.2.2.2.1), V.2.2.2.2.2.2) else (V.1, (if V.2.2.2.2.2.1.2.1 = 0 then V.2.1 else htop V.2.2.2.2.2.1), V.2.2.1, V.2.2.2.1, V.2.2.2.2.1, (if V.2.2.2.2.2.1.2.1 = 0 then V.2.2.2.2.2.1 else hpop V.2.2.2.2.2.1), V.2.2.2.2.2.2))
abbrev rX5_undo : Room := { frames := 6, cells := 1, slots := 6, locals := 124 }
theorem inX5_undo_X1 : ∀ w ∈ u_ws RX1 TX1 3, w ∈ wsX5_undo := by decide +kernel
theorem inX5_undo_X5 : ∀ w ∈ u_ws RX5 TX5 6, w ∈ wsX5_undo := by decide +kernel
set_option maxHeartbeats 4000000 in
set_option maxRecDepth 100000 in
theorem c_X5_undo (l : Launch) (hlt : l.stackTraces = false) (D : va_G) (cy : Nat → ClassId) (ad : AD) (V : BV)  (sz : Nat) (hho : hok V.2.2.2.2.2.1) : CX l yX5_undo wsX5_undo rX5_undo D cy [.ref (ad 0 0 0)] (wB cy ad V) sz (o_X5_undo V) (wB cy ad (w_X5_undo V)) 1 6 := by
  refine stx_i (ty := .int) (cc := cX5_undo) (maxL := 1) (by decide) rfl rfl (Nat.le_of_ble_eq_true rfl) ?_
  intro pp e s m below meth c A Q ls hx hb hts hown hml hlocks htab hsz hP hK hD hE hA hl hAe hQ hret hout
  subst hsz
  have hown : s.vm.findClass RX5 = some m.cls := hown
  have hl : lv_has ls 1 [(0, .ref (ad 0 0 0))] := hl
  obtain ⟨H, hH⟩ : ∃ H, H = s.heap := ⟨_, rfl⟩
  rw [← hH] at hP ⊢
  have hS : va_S A s.heap H [] := by rw [hH]; exact va_S.rf
  obtain ⟨locs, hlo⟩ : ∃ locs : List Loc, locs = [] := ⟨_, rfl⟩
  rw [← hlo] at hS ⊢
  refine lv_aload_n hx hb dX5_undo_0 rfl (lv_at hl 0 rfl) ?_
  refine va_get (D := D) (ci := 4) (v := .ref (ad 0 2 0)) (C := RX5) (T := TX5) (N := 6) hx hb hts inX5_undo_X5 hown hK hP 0 rfl rfl 3 (by decide) (hts _ (List.mem_of_getElem? (i := 3) rfl)) (fun _ h9 => h9) rfl dX5_undo_1 ?_
  refine lv_aload_n hx hb dX5_undo_4 rfl (lv_at hl 0 rfl) ?_
  refine va_get (D := D) (ci := 4) (v := .ref (ad 1 0 0)) (C := RX5) (T := TX5) (N := 6) hx hb hts inX5_undo_X5 hown hK hP 0 rfl rfl 1 (by decide) (hts _ (List.mem_of_getElem? (i := 4) rfl)) (fun _ h9 => h9) rfl dX5_undo_5 ?_
  refine cl_i (va_runV (As := [.ref (ad 1 0 0)]) (rest := []) ⟨hx, hb, hml, hown, hts⟩ (c_X1_takeBack l D cy (ad 0 2) (fun i => ad (i + 5)) (ad 1) V.2.2.2.2.2.1 V.2.1 H.size hho) (cwV 1 hts gX5_undo_X1_takeBack rfl rfl rfl (by decide +kernel) ⟨Nat.le_of_ble_eq_true rfl, Nat.le_of_ble_eq_true rfl⟩) ⟨blU, va_recv hK (vP_perm hP (pmB2 (bB cy ad V) 6 2 _ _ (cH cy (ad 0 2) (fun i => ad (i + 5)) (if V.2.2.2.2.2.1.2.1 = 0 then V.2.2.2.2.2.1 else hpop V.2.2.2.2.2.1)) (cS cy (ad 1) (if V.2.2.2.2.2.1.2.1 = 0 then V.2.1 else htop V.2.2.2.2.2.1)) rfl rfl).1) (ci := 1) (q0 := 0) rfl rfl, preU hP hD (pmB2 (bB cy ad V) 6 2 _ _ (cH cy (ad 0 2) (fun i => ad (i + 5)) (if V.2.2.2.2.2.1.2.1 = 0 then V.2.2.2.2.2.1 else hpop V.2.2.2.2.2.1)) (cS cy (ad 1) (if V.2.2.2.2.2.1.2.1 = 0 then V.2.1 else htop V.2.2.2.2.2.1)) rfl rfl).1 hK hE hS hA⟩ rfl rfl hl.1 rfl (lv_room (Nat.le_of_ble_eq_true rfl)) dX5_undo_8 ⟨Nat.le_of_ble_eq_true rfl, Nat.le_of_ble_eq_true rfl⟩) hP hD (pmB2 (bB cy ad V) 6 2 _ _ (cH cy (ad 0 2) (fun i => ad (i + 5)) (if V.2.2.2.2.2.1.2.1 = 0 then V.2.2.2.2.2.1 else hpop V.2.2.2.2.2.1)) (cS cy (ad 1) (if V.2.2.2.2.2.1.2.1 = 0 then V.2.1 else htop V.2.2.2.2.2.1)) rfl rfl).1 hS hA (fun H locs hP hD hS => ?_)
  have hP : va_P D vwCl (wB cy ad (V.1, (if V.2.2.2.2.2.1.2.1 = 0 then V.2.1 else htop V.2.2.2.2.2.1), V.2.2.1, V.2.2.2.1, V.2.2.2.2.1, (if V.2.2.2.2.2.1.2.1 = 0 then V.2.2.2.2.2.1 else hpop V.2.2.2.2.2.1), V.2.2.2.2.2.2)) H := vP_perm hP ((pmB2 (bB cy ad V) 6 2 _ _ (cH cy (ad 0 2) (fun i => ad (i + 5)) (if V.2.2.2.2.2.1.2.1 = 0 then V.2.2.2.2.2.1 else hpop V.2.2.2.2.2.1)) (cS cy (ad 1) (if V.2.2.2.2.2.1.2.1 = 0 then V.2.1 else htop V.2.2.2.2.2.1)) rfl rfl).2.trans (pmB (bB cy ad (V.1, (if V.2.2.2.2.2.1.2.1 = 0 then V.2.1 else htop V.2.2.2.2.2.1), V.2.2.1, V.2.2.2.1, V.2.2.2.2.1, (if V.2.2.2.2.2.1.2.1 = 0 then V.2.2.2.2.2.1 else hpop V.2.2.2.2.2.1), V.2.2.2.2.2.2)) 6 _ (cH cy (ad 0 2) (fun i => ad (i + 5)) (if V.2.2.2.2.2.1.2.1 = 0 then V.2.2.2.2.2.1 else hpop V.2.2.2.2.2.1)) rfl).1.symm)
  have hD : va_D A (wB cy ad (V.1, (if V.2.2.2.2.2.1.2.1 = 0 then V.2.1 else htop V.2.2.2.2.2.1), V.2.2.1, V.2.2.2.1, V.2.2.2.2.1, (if V.2.2.2.2.2.1.2.1 = 0 then V.2.2.2.2.2.1 else hpop V.2.2.2.2.2.1), V.2.2.2.2.2.2)) := vD_perm hD ((pmB2 (bB cy ad V) 6 2 _ _ (cH cy (ad 0 2) (fun i => ad (i + 5)) (if V.2.2.2.2.2.1.2.1 = 0 then V.2.2.2.2.2.1 else hpop V.2.2.2.2.2.1)) (cS cy (ad 1) (if V.2.2.2.2.2.1.2.1 = 0 then V.2.1 else htop V.2.2.2.2.2.1)) rfl rfl).2.trans (pmB (bB cy ad (V.1, (if V.2.2.2.2.2.1.2.1 = 0 then V.2.1 else htop V.2.2.2.2.2.1), V.2.2.1, V.2.2.2.1, V.2.2.2.2.1, (if V.2.2.2.2.2.1.2.1 = 0 then V.2.2.2.2.2.1 else hpop V.2.2.2.2.2.1), V.2.2.2.2.2.2)) 6 _ (cH cy (ad 0 2) (fun i => ad (i + 5)) (if V.2.2.2.2.2.1.2.1 = 0 then V.2.2.2.2.2.1 else hpop V.2.2.2.2.2.1)) rfl).1.symm)
  refine lv_if_ne (tgt := 24) hx hb dX5_undo_11 (by decide) (fun c_1 => ?_) (fun c_1 => ?_)
  · refine lv_aload_n hx hb dX5_undo_24 rfl (lv_at hl 0 rfl) ?_
    refine va_get (D := D) (ci := 4) (v := .ref (ad 0 2 0)) (C := RX5) (T := TX5) (N := 6) hx hb hts inX5_undo_X5 hown hK hP 0 rfl rfl 3 (by decide) (hts _ (List.mem_of_getElem? (i := 3) rfl)) (fun _ h9 => h9) rfl dX5_undo_25 ?_
    refine va_get (D := D) (ci := 1) (v := .int (nI (if V.2.2.2.2.2.1.2.1 = 0 then V.2.2.2.2.2.1 else hpop V.2.2.2.2.2.1).2.1)) (C := RX1) (T := TX1) (N := 3) hx hb hts inX5_undo_X1 hown hK hP 91 rfl rfl 2 (by decide) (hts _ (List.mem_of_getElem? (i := 5) rfl)) (fun _ h9 => h9) rfl dX5_undo_28 ?_
    refine W.widen (k := 1) (n := 6) (Nat.le_of_ble_eq_true rfl) (Nat.le_of_ble_eq_true rfl) ?_
    have hr9 : (o_X5_undo V) = ((0 : Int32), (nI (if V.2.2.2.2.2.1.2.1 = 0 then V.2.2.2.2.2.1 else hpop V.2.2.2.2.2.1).2.1)) := by unfold o_X5_undo; simp only [if_neg c_1, if_true, if_false]
    have hw9 : (w_X5_undo V) = (V.1, (if V.2.2.2.2.2.1.2.1 = 0 then V.2.1 else htop V.2.2.2.2.2.1), V.2.2.1, V.2.2.2.1, V.2.2.2.2.1, (if V.2.2.2.2.2.1.2.1 = 0 then V.2.2.2.2.2.1 else hpop V.2.2.2.2.2.1), V.2.2.2.2.2.2) := by unfold w_X5_undo; simp only [if_neg c_1, if_true, if_false]
    exact hret _ H locs _ ls hr9 (by rw [hw9]; exact hP) (by rw [hw9]; exact hD) hS dX5_undo_31
  · have ho9 : (o_X5_undo V).1 = (-9999003 : Int32) := by unfold o_X5_undo; simp only [if_pos c_1, if_true, if_false]
    have hw9 : (w_X5_undo V) = (V.1, (if V.2.2.2.2.2.1.2.1 = 0 then V.2.1 else htop V.2.2.2.2.2.1), V.2.2.1, V.2.2.2.1, V.2.2.2.2.1, (if V.2.2.2.2.2.1.2.1 = 0 then V.2.2.2.2.2.1 else hpop V.2.2.2.2.2.1), V.2.2.2.2.2.2) := by unfold w_X5_undo; simp only [if_pos c_1, if_true, if_false]
    rw [hQ]
    exact thr_3 (text := "no state is remembered") hx hb hlt hown (hts _ (List.mem_of_getElem? (i := 1) rfl)) (hts _ (List.mem_of_getElem? (i := 2) rfl)) (fun w hw => hts w (List.mem_cons_of_mem _ (List.mem_append_right _ hw))) (by decide +kernel) hE hS (hl.1.trans hml.symm) dX5_undo_14 dX5_undo_17 dX5_undo_18 dX5_undo_20 dX5_undo_23 htab (Nat.le_of_ble_eq_true rfl) (Nat.le_of_ble_eq_true rfl) (Nat.le_of_ble_eq_true rfl) (Nat.le_of_ble_eq_true rfl) hlocks hAe ho9 (by rw [hw9]; exact hP) (by rw [hw9]; exact hD) (Nat.le_of_ble_eq_true rfl) (Nat.le_of_ble_eq_true rfl)

def r_X5_wouldBring (V : BV)  : Int32 := (if (r_X4_isPlayable V.1) = 0 then (-99999 : Int32) else (((w_X3_goAll V.2.1 (w_X4_isPlayable V.1)).1 7 0) - (V.2.1.1 7 0)))
def w_X5_wouldBring (V : BV)  : BV := (if (r_X4_isPlayable V.1) = 0 then ((w_X4_isPlayable V.1), V.2.1, V.2.2.1, V.2.2.2.1, V.2.2.2.2.1, V.2.2.2.2.2.1, V.2.2.2.2.2.2) else ((w_X4_isPlayable V.1), V.2.1, (w_X3_goAll V.2.1 (w_X4_isPlayable V.1)), V.2.2.2.1, V.2.2.2.2.1, V.2.2.2.2.2.1, V.2.2.2.2.2.2))
abbrev rX5_wouldBring : Room := { frames := 5, cells := 0, slots := 0, locals := 117 }
theorem inX5_wouldBring_X3 : ∀ w ∈ u_ws RX3 TX3 11, w ∈ wsX5_wouldBring := by decide +kernel
theorem inX5_wouldBring_X5 : ∀ w ∈ u_ws RX5 TX5 6, w ∈ wsX5_wouldBring := by decide +kernel
set_option maxHeartbeats 4000000 in
set_option maxRecDepth 100000 in
theorem c_X5_wouldBring (l : Launch) (D : va_G) (cy : Nat → ClassId) (ad : AD) (V : BV)  (sz : Nat) (hsz2 : szok (V.2.1.1 0 0)) (hlen : ∃ n, n ≤ 80 ∧ V.1 3 0 = nI n) (hg : ∃ g, g < 26 ∧ V.1 6 0 = nI g) : CI l yX5_wouldBring wsX5_wouldBring rX5_wouldBring D cy [.ref (ad 0 0 0)] (wB cy ad V) sz (r_X5_wouldBring V) (wB cy ad (w_X5_wouldBring V)) 0 0 := by
  refine st_i (ty := .int) (cc := cX5_wouldBring) (maxL := 1) (by decide) rfl rfl (Nat.le_of_ble_eq_true rfl) ?_
  intro pp e s m below meth c A Q ls hx hb hts hown hml hlocks hsz hP hK hD hE hA hl hret
  subst hsz
  have hown : s.vm.findClass RX5 = some m.cls := hown
  have hl : lv_has ls 1 [(0, .ref (ad 0 0 0))] := hl
  obtain ⟨H, hH⟩ : ∃ H, H = s.heap := ⟨_, rfl⟩
  rw [← hH] at hP ⊢
  have hS : va_S A s.heap H [] := by rw [hH]; exact va_S.rf
  obtain ⟨locs, hlo⟩ : ∃ locs : List Loc, locs = [] := ⟨_, rfl⟩
  rw [← hlo] at hS ⊢
  refine lv_aload_n hx hb dX5_wouldBring_0 rfl (lv_at hl 0 rfl) ?_
  refine va_get (D := D) (ci := 4) (v := .ref (ad 0 1 0)) (C := RX5) (T := TX5) (N := 6) hx hb hts inX5_wouldBring_X5 hown hK hP 0 rfl rfl 0 (by decide) (hts _ (List.mem_of_getElem? (i := 1) rfl)) (fun _ h9 => h9) rfl dX5_wouldBring_1 ?_
  refine cl_i (va_runV (As := []) (rest := []) ⟨hx, hb, hml, hown, hts⟩ (c_X4_isPlayable l D cy (ad 0 1) V.1 H.size hlen hg) (cwV 0 hts gX5_wouldBring_X4_isPlayable rfl rfl rfl (by decide +kernel) ⟨Nat.le_of_ble_eq_true rfl, Nat.le_of_ble_eq_true rfl⟩) ⟨blU, va_recv hK hP (ci := 3) (q0 := 3) rfl rfl, preU hP hD (pmB (bB cy ad V) 1 _ (cT cy (ad 0 1) (w_X4_isPlayable V.1)) rfl).1 hK hE hS hA⟩ rfl rfl hl.1 rfl (lv_room (Nat.le_of_ble_eq_true rfl)) dX5_wouldBring_4 ⟨Nat.le_of_ble_eq_true rfl, Nat.le_of_ble_eq_true rfl⟩) hP hD (pmB (bB cy ad V) 1 _ (cT cy (ad 0 1) (w_X4_isPlayable V.1)) rfl).1 hS hA (fun H locs hP hD hS => ?_)
  have hP : va_P D vwCl (wB cy ad ((w_X4_isPlayable V.1), V.2.1, V.2.2.1, V.2.2.2.1, V.2.2.2.2.1, V.2.2.2.2.2.1, V.2.2.2.2.2.2)) H := vP_perm hP (pmB (bB cy ad V) 1 _ (cT cy (ad 0 1) (w_X4_isPlayable V.1)) rfl).2
  have hD : va_D A (wB cy ad ((w_X4_isPlayable V.1), V.2.1, V.2.2.1, V.2.2.2.1, V.2.2.2.2.1, V.2.2.2.2.2.1, V.2.2.2.2.2.2)) := vD_perm hD (pmB (bB cy ad V) 1 _ (cT cy (ad 0 1) (w_X4_isPlayable V.1)) rfl).2
  refine lv_if_ne (tgt := 13) hx hb dX5_wouldBring_7 (by decide) (fun c_1 => ?_) (fun c_1 => ?_)
  · refine lv_aload_n hx hb dX5_wouldBring_13 rfl (lv_at hl 0 rfl) ?_
    refine va_get (D := D) (ci := 4) (v := .ref (ad 2 0 0)) (C := RX5) (T := TX5) (N := 6) hx hb hts inX5_wouldBring_X5 hown hK hP 0 rfl rfl 2 (by decide) (hts _ (List.mem_of_getElem? (i := 3) rfl)) (fun _ h9 => h9) rfl dX5_wouldBring_14 ?_
    refine lv_aload_n hx hb dX5_wouldBring_17 rfl (lv_at hl 0 rfl) ?_
    refine va_get (D := D) (ci := 4) (v := .ref (ad 1 0 0)) (C := RX5) (T := TX5) (N := 6) hx hb hts inX5_wouldBring_X5 hown hK hP 0 rfl rfl 1 (by decide) (hts _ (List.mem_of_getElem? (i := 4) rfl)) (fun _ h9 => h9) rfl dX5_wouldBring_18 ?_
    refine cl_n (va_runV (As := [.ref (ad 1 0 0)]) (rest := []) ⟨hx, hb, hml, hown, hts⟩ (c_X3_copyFrom l D cy (ad 2) (ad 1) V.2.2.1 V.2.1 H.size) (cwV 1 hts gX5_wouldBring_X3_copyFrom rfl rfl rfl (by decide +kernel) ⟨Nat.le_of_ble_eq_true rfl, Nat.le_of_ble_eq_true rfl⟩) ⟨blU, va_recv hK hP (ci := 2) (q0 := 28) rfl rfl, preU hP hD (pmB2 (bB cy ad ((w_X4_isPlayable V.1), V.2.1, V.2.2.1, V.2.2.2.1, V.2.2.2.2.1, V.2.2.2.2.2.1, V.2.2.2.2.2.2)) 3 2 _ _ (cS cy (ad 2) V.2.1) (cS cy (ad 1) V.2.1) rfl rfl).1 hK hE hS hA⟩ rfl rfl hl.1 rfl (lv_room (Nat.le_of_ble_eq_true rfl)) dX5_wouldBring_21 ⟨Nat.le_of_ble_eq_true rfl, Nat.le_of_ble_eq_true rfl⟩) hP hD (pmB2 (bB cy ad ((w_X4_isPlayable V.1), V.2.1, V.2.2.1, V.2.2.2.1, V.2.2.2.2.1, V.2.2.2.2.2.1, V.2.2.2.2.2.2)) 3 2 _ _ (cS cy (ad 2) V.2.1) (cS cy (ad 1) V.2.1) rfl rfl).1 hS hA (fun H locs hP hD hS => ?_)
    have hP : va_P D vwCl (wB cy ad ((w_X4_isPlayable V.1), V.2.1, V.2.1, V.2.2.2.1, V.2.2.2.2.1, V.2.2.2.2.2.1, V.2.2.2.2.2.2)) H := vP_perm hP ((pmB2 (bB cy ad ((w_X4_isPlayable V.1), V.2.1, V.2.2.1, V.2.2.2.1, V.2.2.2.2.1, V.2.2.2.2.2.1, V.2.2.2.2.2.2)) 3 2 _ _ (cS cy (ad 2) V.2.1) (cS cy (ad 1) V.2.1) rfl rfl).2.trans (pmB (bB cy ad ((w_X4_isPlayable V.1), V.2.1, V.2.1, V.2.2.2.1, V.2.2.2.2.1, V.2.2.2.2.2.1, V.2.2.2.2.2.2)) 3 _ (cS cy (ad 2) V.2.1) rfl).1.symm)
    have hD : va_D A (wB cy ad ((w_X4_isPlayable V.1), V.2.1, V.2.1, V.2.2.2.1, V.2.2.2.2.1, V.2.2.2.2.2.1, V.2.2.2.2.2.2)) := vD_perm hD ((pmB2 (bB cy ad ((w_X4_isPlayable V.1), V.2.1, V.2.2.1, V.2.2.2.1, V.2.2.2.2.1, V.2.2.2.2.2.1, V.2.2.2.2.2.2)) 3 2 _ _ (cS cy (ad 2) V.2.1) (cS cy (ad 1) V.2.1) rfl rfl).2.trans (pmB (bB cy ad ((w_X4_isPlayable V.1), V.2.1, V.2.1, V.2.2.2.1, V.2.2.2.2.1, V.2.2.2.2.2.1, V.2.2.2.2.2.2)) 3 _ (cS cy (ad 2) V.2.1) rfl).1.symm)
    refine lv_aload_n hx hb dX5_wouldBring_24 rfl (lv_at hl 0 rfl) ?_
    refine va_get (D := D) (ci := 4) (v := .ref (ad 2 0 0)) (C := RX5) (T := TX5) (N := 6) hx hb hts inX5_wouldBring_X5 hown hK hP 0 rfl rfl 2 (by decide) (hts _ (List.mem_of_getElem? (i := 3) rfl)) (fun _ h9 => h9) rfl dX5_wouldBring_25 ?_
    refine lv_aload_n hx hb dX5_wouldBring_28 rfl (lv_at hl 0 rfl) ?_
    refine va_get (D := D) (ci := 4) (v := .ref (ad 0 1 0)) (C := RX5) (T := TX5) (N := 6) hx hb hts inX5_wouldBring_X5 hown hK hP 0 rfl rfl 0 (by decide) (hts _ (List.mem_of_getElem? (i := 1) rfl)) (fun _ h9 => h9) rfl dX5_wouldBring_29 ?_
    refine cl_n (va_runV (As := [.ref (ad 0 1 0)]) (rest := []) ⟨hx, hb, hml, hown, hts⟩ (c_X3_goAll l D cy (ad 2) (ad 0 1) V.2.1 (w_X4_isPlayable V.1) H.size hsz2 (stepok_of hlen hg c_1)) (cwV 1 hts gX5_wouldBring_X3_goAll rfl rfl rfl (by decide +kernel) ⟨Nat.le_of_ble_eq_true rfl, Nat.le_of_ble_eq_true rfl⟩) ⟨blU, va_recv hK hP (ci := 2) (q0 := 28) rfl rfl, preU hP hD (pmB2 (bB cy ad ((w_X4_isPlayable V.1), V.2.1, V.2.1, V.2.2.2.1, V.2.2.2.2.1, V.2.2.2.2.2.1, V.2.2.2.2.2.2)) 3 1 _ _ (cS cy (ad 2) (w_X3_goAll V.2.1 (w_X4_isPlayable V.1))) (cT cy (ad 0 1) (w_X4_isPlayable V.1)) rfl rfl).1 hK hE hS hA⟩ rfl rfl hl.1 rfl (lv_room (Nat.le_of_ble_eq_true rfl)) dX5_wouldBring_32 ⟨Nat.le_of_ble_eq_true rfl, Nat.le_of_ble_eq_true rfl⟩) hP hD (pmB2 (bB cy ad ((w_X4_isPlayable V.1), V.2.1, V.2.1, V.2.2.2.1, V.2.2.2.2.1, V.2.2.2.2.2.1, V.2.2.2.2.2.2)) 3 1 _ _ (cS cy (ad 2) (w_X3_goAll V.2.1 (w_X4_isPlayable V.1))) (cT cy (ad 0 1) (w_X4_isPlayable V.1)) rfl rfl).1 hS hA (fun H locs hP hD hS => ?_)
    have hP : va_P D vwCl (wB cy ad ((w_X4_isPlayable V.1), V.2.1, (w_X3_goAll V.2.1 (w_X4_isPlayable V.1)), V.2.2.2.1, V.2.2.2.2.1, V.2.2.2.2.2.1, V.2.2.2.2.2.2)) H := vP_perm hP ((pmB2 (bB cy ad ((w_X4_isPlayable V.1), V.2.1, V.2.1, V.2.2.2.1, V.2.2.2.2.1, V.2.2.2.2.2.1, V.2.2.2.2.2.2)) 3 1 _ _ (cS cy (ad 2) (w_X3_goAll V.2.1 (w_X4_isPlayable V.1))) (cT cy (ad 0 1) (w_X4_isPlayable V.1)) rfl rfl).2.trans (pmB (bB cy ad ((w_X4_isPlayable V.1), V.2.1, (w_X3_goAll V.2.1 (w_X4_isPlayable V.1)), V.2.2.2.1, V.2.2.2.2.1, V.2.2.2.2.2.1, V.2.2.2.2.2.2)) 3 _ (cS cy (ad 2) (w_X3_goAll V.2.1 (w_X4_isPlayable V.1))) rfl).1.symm)
    have hD : va_D A (wB cy ad ((w_X4_isPlayable V.1), V.2.1, (w_X3_goAll V.2.1 (w_X4_isPlayable V.1)), V.2.2.2.1, V.2.2.2.2.1, V.2.2.2.2.2.1, V.2.2.2.2.2.2)) := vD_perm hD ((pmB2 (bB cy ad ((w_X4_isPlayable V.1), V.2.1, V.2.1, V.2.2.2.1, V.2.2.2.2.1, V.2.2.2.2.2.1, V.2.2.2.2.2.2)) 3 1 _ _ (cS cy (ad 2) (w_X3_goAll V.2.1 (w_X4_isPlayable V.1))) (cT cy (ad 0 1) (w_X4_isPlayable V.1)) rfl rfl).2.trans (pmB (bB cy ad ((w_X4_isPlayable V.1), V.2.1, (w_X3_goAll V.2.1 (w_X4_isPlayable V.1)), V.2.2.2.1, V.2.2.2.2.1, V.2.2.2.2.2.1, V.2.2.2.2.2.2)) 3 _ (cS cy (ad 2) (w_X3_goAll V.2.1 (w_X4_isPlayable V.1))) rfl).1.symm)
    refine lv_aload_n hx hb dX5_wouldBring_35 rfl (lv_at hl 0 rfl) ?_
    refine va_get (D := D) (ci := 4) (v := .ref (ad 2 0 0)) (C := RX5) (T := TX5) (N := 6) hx hb hts inX5_wouldBring_X5 hown hK hP 0 rfl rfl 2 (by decide) (hts _ (List.mem_of_getElem? (i := 3) rfl)) (fun _ h9 => h9) rfl dX5_wouldBring_36 ?_
    refine va_get (D := D) (ci := 2) (v := .int ((w_X3_goAll V.2.1 (w_X4_isPlayable V.1)).1 7 0)) (C := RX3) (T := TX3) (N := 11) hx hb hts inX5_wouldBring_X3 hown hK hP 28 rfl rfl 8 (by decide) (hts _ (List.mem_of_getElem? (i := 5) rfl)) (fun _ h9 => h9) rfl dX5_wouldBring_39 ?_
    refine lv_aload_n hx hb dX5_wouldBring_42 rfl (lv_at hl 0 rfl) ?_
    refine va_get (D := D) (ci := 4) (v := .ref (ad 1 0 0)) (C := RX5) (T := TX5) (N := 6) hx hb hts inX5_wouldBring_X5 hown hK hP 0 rfl rfl 1 (by decide) (hts _ (List.mem_of_getElem? (i := 4) rfl)) (fun _ h9 => h9) rfl dX5_wouldBring_43 ?_
    refine va_get (D := D) (ci := 2) (v := .int (V.2.1.1 7 0)) (C := RX3) (T := TX3) (N := 11) hx hb hts inX5_wouldBring_X3 hown hK hP 7 rfl rfl 8 (by decide) (hts _ (List.mem_of_getElem? (i := 5) rfl)) (fun _ h9 => h9) rfl dX5_wouldBring_46 ?_
    refine lv_isub hx hb dX5_wouldBring_49 ?_
    have hr9 : (((w_X3_goAll V.2.1 (w_X4_isPlayable V.1)).1 7 0) - (V.2.1.1 7 0)) = (r_X5_wouldBring V) := by unfold r_X5_wouldBring; simp only [if_neg c_1, if_true, if_false]
    have hw9 : (w_X5_wouldBring V) = ((w_X4_isPlayable V.1), V.2.1, (w_X3_goAll V.2.1 (w_X4_isPlayable V.1)), V.2.2.2.1, V.2.2.2.2.1, V.2.2.2.2.2.1, V.2.2.2.2.2.2) := by unfold w_X5_wouldBring; simp only [if_neg c_1, if_true, if_false]
    exact hret _ H locs _ ls hr9 (by rw [hw9]; exact hP) (by rw [hw9]; exact hD) hS dX5_wouldBring_50
  · refine lv_ldc (v := (-99999)) hx hb hown (hts _ (List.mem_of_getElem? (i := 2) rfl)) dX5_wouldBring_10 ?_
    have hr9 : (-99999 : Int32) = (r_X5_wouldBring V) := by unfold r_X5_wouldBring; simp only [if_pos c_1, if_true, if_false]
    have hw9 : (w_X5_wouldBring V) = ((w_X4_isPlayable V.1), V.2.1, V.2.2.1, V.2.2.2.1, V.2.2.2.2.1, V.2.2.2.2.2.1, V.2.2.2.2.2.2) := by unfold w_X5_wouldBring; simp only [if_pos c_1, if_true, if_false]
    exact hret _ H locs _ ls hr9 (by rw [hw9]; exact hP) (by rw [hw9]; exact hD) hS dX5_wouldBring_12

def o_X5_save (V : BV) (slot : Int32) : Int32 × Int32 := (if (o_X5_checkSlot slot) = 0 then (if slot = 0 then ((0 : Int32), (V.2.1.1 5 0)) else ((0 : Int32), (V.2.1.1 5 0))) else ((o_X5_checkSlot slot), (0 : Int32)))
def w_X5_save (V : BV) (slot : Int32) : BV := (if (o_X5_checkSlot slot) = 0 then (if slot = 0 then (V.1, V.2.1, V.2.2.1, V.2.1, V.2.2.2.2.1, V.2.2.2.2.2.1, (upd V.2.2.2.2.2.2 0 (1 : Int32))) else (V.1, V.2.1, V.2.2.1, V.2.2.2.1, V.2.1, V.2.2.2.2.2.1, (upd V.2.2.2.2.2.2 1 (1 : Int32)))) else V)
abbrev rX5_save : Room := { frames := 7, cells := 1, slots := 6, locals := 110 }
theorem inX5_save_X3 : ∀ w ∈ u_ws RX3 TX3 11, w ∈ wsX5_save := by decide +kernel
theorem inX5_save_X5 : ∀ w ∈ u_ws RX5 TX5 6, w ∈ wsX5_save := by decide +kernel
set_option maxHeartbeats 4000000 in
set_option maxRecDepth 100000 in
theorem c_X5_save (l : Launch) (hlt : l.stackTraces = false) (D : va_G) (cy : Nat → ClassId) (ad : AD) (V : BV) (slot : Int32) (sz : Nat)  : CX l yX5_save wsX5_save rX5_save D cy [.ref (ad 0 0 0), .int slot] (wB cy ad V) sz (o_X5_save V slot) (wB cy ad (w_X5_save V slot)) 1 6 := by
  refine stx_i (ty := .int) (cc := cX5_save) (maxL := 2) (by decide) rfl rfl (Nat.le_of_ble_eq_true rfl) ?_
  intro pp e s m below meth c A Q ls hx hb hts hown hml hlocks htab hsz hP hK hD hE hA hl hAe hQ hret hout
  subst hsz
  have hown : s.vm.findClass RX5 = some m.cls := hown
  have hl : lv_has ls 2 [(0, .ref (ad 0 0 0)), (1, .int slot)] := hl
  obtain ⟨H, hH⟩ : ∃ H, H = s.heap := ⟨_, rfl⟩
  rw [← hH] at hP ⊢
  have hS : va_S A s.heap H [] := by rw [hH]; exact va_S.rf
  obtain ⟨locs, hlo⟩ : ∃ locs : List Loc, locs = [] := ⟨_, rfl⟩
  rw [← hlo] at hS ⊢
  refine lv_iload_n hx hb dX5_save_0 rfl (lv_at hl 1 rfl) ?_
  refine clx_n (vx_runS (As := [.int slot]) (rest := []) ⟨hx, hb, hml, hown, hts⟩ (c_X5_checkSlot l hlt D cy slot H.size) (va_cwS 1 hts gX5_save_X5_checkSlot rfl rfl rfl (by decide +kernel) ⟨Nat.le_of_ble_eq_true rfl, Nat.le_of_ble_eq_true rfl⟩) ⟨blU, preU hP hD (List.Perm.refl _) hK hE hS hA⟩ rfl rfl hl.1 rfl (lv_room (Nat.le_of_ble_eq_true rfl)) dX5_save_1 ⟨Nat.le_of_ble_eq_true rfl, Nat.le_of_ble_eq_true rfl⟩) hP hD (List.Perm.refl _) hS hA (fun c_1 q9 ce H locs hq hv hcl hP hD hS => ?_) (fun c_1 H locs hP hD hS => ?_)
  · have hP : va_P D vwCl (wB cy ad V) H := vP_perm hP (List.Perm.refl _)
    have hD : va_D A (wB cy ad V) := vD_perm hD (List.Perm.refl _)
    have ho9 : (o_X5_save V slot).1 = (o_X5_checkSlot slot) := by unfold o_X5_save; simp only [if_neg c_1, if_true, if_false]
    have hw9 : (w_X5_save V slot) = V := by unfold w_X5_save; simp only [if_neg c_1, if_true, if_false]
    exact vx_widen (k := 1) (n := 6) (Nat.le_of_ble_eq_true rfl) (Nat.le_of_ble_eq_true rfl) (hout _ q9 ce H locs _ ls _ ho9 c_1 hq hv hcl (by rw [hw9]; exact hP) (by rw [hw9]; exact hD) hS)
  · have hP : va_P D vwCl (wB cy ad V) H := vP_perm hP (List.Perm.refl _)
    have hD : va_D A (wB cy ad V) := vD_perm hD (List.Perm.refl _)
    have hd := (ckSlot_of c_1)
    rcases hd with hd | hd
    · subst hd
      have hd0 : (0 : Int32) = 0 := by decide
      have hl : lv_has ls 2 [(0, .ref (ad 0 0 0)), (1, .int (0 : Int32))] := hl
      refine lv_aload_n hx hb dX5_save_4 rfl (lv_at hl 0 rfl) ?_
      refine va_get (D := D) (ci := 4) (v := .ref (ad 0 0 1)) (C := RX5) (T := TX5) (N := 6) hx hb hts inX5_save_X5 hown hK hP 0 rfl rfl 4 (by decide) (hts _ (List.mem_of_getElem? (i := 1) rfl)) (fun _ h9 => h9) rfl dX5_save_5 ?_
      refine lv_iload_n hx hb dX5_save_8 rfl (lv_at hl 1 rfl) ?_
      refine x_aldq (v := .ref (ad 3 0 0)) hx hb hK hP 1 3 rfl rfl (vp_c (by decide)) rfl dX5_save_9 ?_
      refine lv_aload_n hx hb dX5_save_10 rfl (lv_at hl 0 rfl) ?_
      refine va_get (D := D) (ci := 4) (v := .ref (ad 1 0 0)) (C := RX5) (T := TX5) (N := 6) hx hb hts inX5_save_X5 hown hK hP 0 rfl rfl 1 (by decide) (hts _ (List.mem_of_getElem? (i := 2) rfl)) (fun _ h9 => h9) rfl dX5_save_11 ?_
      refine cl_n (va_runV (As := [.ref (ad 1 0 0)]) (rest := []) ⟨hx, hb, hml, hown, hts⟩ (c_X3_copyFrom l D cy (ad 3) (ad 1) V.2.2.2.1 V.2.1 H.size) (cwV 1 hts gX5_save_X3_copyFrom rfl rfl rfl (by decide +kernel) ⟨Nat.le_of_ble_eq_true rfl, Nat.le_of_ble_eq_true rfl⟩) ⟨blU, va_recv hK hP (ci := 2) (q0 := 49) rfl rfl, preU hP hD (pmB2 (bB cy ad V) 4 2 _ _ (cS cy (ad 3) V.2.1) (cS cy (ad 1) V.2.1) rfl rfl).1 hK hE hS hA⟩ rfl rfl hl.1 rfl (lv_room (Nat.le_of_ble_eq_true rfl)) dX5_save_14 ⟨Nat.le_of_ble_eq_true rfl, Nat.le_of_ble_eq_true rfl⟩) hP hD (pmB2 (bB cy ad V) 4 2 _ _ (cS cy (ad 3) V.2.1) (cS cy (ad 1) V.2.1) rfl rfl).1 hS hA (fun H locs hP hD hS => ?_)
      have hP : va_P D vwCl (wB cy ad (V.1, V.2.1, V.2.2.1, V.2.1, V.2.2.2.2.1, V.2.2.2.2.2.1, V.2.2.2.2.2.2)) H := vP_perm hP ((pmB2 (bB cy ad V) 4 2 _ _ (cS cy (ad 3) V.2.1) (cS cy (ad 1) V.2.1) rfl rfl).2.trans (pmB (bB cy ad (V.1, V.2.1, V.2.2.1, V.2.1, V.2.2.2.2.1, V.2.2.2.2.2.1, V.2.2.2.2.2.2)) 4 _ (cS cy (ad 3) V.2.1) rfl).1.symm)
      have hD : va_D A (wB cy ad (V.1, V.2.1, V.2.2.1, V.2.1, V.2.2.2.2.1, V.2.2.2.2.2.1, V.2.2.2.2.2.2)) := vD_perm hD ((pmB2 (bB cy ad V) 4 2 _ _ (cS cy (ad 3) V.2.1) (cS cy (ad 1) V.2.1) rfl rfl).2.trans (pmB (bB cy ad (V.1, V.2.1, V.2.2.1, V.2.1, V.2.2.2.2.1, V.2.2.2.2.2.1, V.2.2.2.2.2.2)) 4 _ (cS cy (ad 3) V.2.1) rfl).1.symm)
      refine lv_aload_n hx hb dX5_save_17 rfl (lv_at hl 0 rfl) ?_
      refine va_get (D := D) (ci := 4) (v := .ref (ad 0 0 2)) (C := RX5) (T := TX5) (N := 6) hx hb hts inX5_save_X5 hown hK hP 0 rfl rfl 5 (by decide) (hts _ (List.mem_of_getElem? (i := 3) rfl)) (fun _ h9 => h9) rfl dX5_save_18 ?_
      refine lv_iload_n hx hb dX5_save_21 rfl (lv_at hl 1 rfl) ?_
      refine lv_iconst (v := 1) hx hb dX5_save_22 (by decide) ?_
      refine va_zast hx hb hK hP hD hS 2 1 rfl rfl (vp_c (by decide)) dX5_save_23 (fun H locs hP hD hS => ?_)
      have hP : va_P D vwCl (wB cy ad (V.1, V.2.1, V.2.2.1, V.2.1, V.2.2.2.2.1, V.2.2.2.2.2.1, (upd V.2.2.2.2.2.2 0 (1 : Int32)))) H := hP
      have hD : va_D A (wB cy ad (V.1, V.2.1, V.2.2.1, V.2.1, V.2.2.2.2.1, V.2.2.2.2.2.1, (upd V.2.2.2.2.2.2 0 (1 : Int32)))) := hD
      refine lv_aload_n hx hb dX5_save_24 rfl (lv_at hl 0 rfl) ?_
      refine va_get (D := D) (ci := 4) (v := .ref (ad 1 0 0)) (C := RX5) (T := TX5) (N := 6) hx hb hts inX5_save_X5 hown hK hP 0 rfl rfl 1 (by decide) (hts _ (List.mem_of_getElem? (i := 2) rfl)) (fun _ h9 => h9) rfl dX5_save_25 ?_
      refine va_get (D := D) (ci := 2) (v := .int (V.2.1.1 5 0)) (C := RX3) (T := TX3) (N := 11) hx hb hts inX5_save_X3 hown hK hP 7 rfl rfl 6 (by decide) (hts _ (List.mem_of_getElem? (i := 4) rfl)) (fun _ h9 => h9) rfl dX5_save_28 ?_
      have hr9 : (o_X5_save V (0 : Int32)) = ((0 : Int32), (V.2.1.1 5 0)) := by unfold o_X5_save; simp only [if_pos c_1, if_pos hd0, if_true, if_false]
      have hw9 : (w_X5_save V (0 : Int32)) = (V.1, V.2.1, V.2.2.1, V.2.1, V.2.2.2.2.1, V.2.2.2.2.2.1, (upd V.2.2.2.2.2.2 0 (1 : Int32))) := by unfold w_X5_save; simp only [if_pos c_1, if_pos hd0, if_true, if_false]
      exact hret _ H locs _ ls hr9 (by rw [hw9]; exact hP) (by rw [hw9]; exact hD) hS dX5_save_31
    · subst hd
      have hd1 : ¬ (1 : Int32) = 0 := by decide
      have hl : lv_has ls 2 [(0, .ref (ad 0 0 0)), (1, .int (1 : Int32))] := hl
      refine lv_aload_n hx hb dX5_save_4 rfl (lv_at hl 0 rfl) ?_
      refine va_get (D := D) (ci := 4) (v := .ref (ad 0 0 1)) (C := RX5) (T := TX5) (N := 6) hx hb hts inX5_save_X5 hown hK hP 0 rfl rfl 4 (by decide) (hts _ (List.mem_of_getElem? (i := 1) rfl)) (fun _ h9 => h9) rfl dX5_save_5 ?_
      refine lv_iload_n hx hb dX5_save_8 rfl (lv_at hl 1 rfl) ?_
      refine x_aldq (v := .ref (ad 4 0 0)) hx hb hK hP 1 3 rfl rfl (vp_c (by decide)) rfl dX5_save_9 ?_
      refine lv_aload_n hx hb dX5_save_10 rfl (lv_at hl 0 rfl) ?_
      refine va_get (D := D) (ci := 4) (v := .ref (ad 1 0 0)) (C := RX5) (T := TX5) (N := 6) hx hb hts inX5_save_X5 hown hK hP 0 rfl rfl 1 (by decide) (hts _ (List.mem_of_getElem? (i := 2) rfl)) (fun _ h9 => h9) rfl dX5_save_11 ?_
      refine cl_n (va_runV (As := [.ref (ad 1 0 0)]) (rest := []) ⟨hx, hb, hml, hown, hts⟩ (c_X3_copyFrom l D cy (ad 4) (ad 1) V.2.2.2.2.1 V.2.1 H.size) (cwV 1 hts gX5_save_X3_copyFrom rfl rfl rfl (by decide +kernel) ⟨Nat.le_of_ble_eq_true rfl, Nat.le_of_ble_eq_true rfl⟩) ⟨blU, va_recv hK hP (ci := 2) (q0 := 70) rfl rfl, preU hP hD (pmB2 (bB cy ad V) 5 2 _ _ (cS cy (ad 4) V.2.1) (cS cy (ad 1) V.2.1) rfl rfl).1 hK hE hS hA⟩ rfl rfl hl.1 rfl (lv_room (Nat.le_of_ble_eq_true rfl)) dX5_save_14 ⟨Nat.le_of_ble_eq_true rfl, Nat.le_of_ble_eq_true rfl⟩) hP hD (pmB2 (bB cy ad V) 5 2 _ _ (cS cy (ad 4) V.2.1) (cS cy (ad 1) V.2.1) rfl rfl).1 hS hA (fun H locs hP hD hS => ?_)
      have hP : va_P D vwCl (wB cy ad (V.1, V.2.1, V.2.2.1, V.2.2.2.1, V.2.1, V.2.2.2.2.2.1, V.2.2.2.2.2.2)) H := vP_perm hP ((pmB2 (bB cy ad V) 5 2 _ _ (cS cy (ad 4) V.2.1) (cS cy (ad 1) V.2.1) rfl rfl).2.trans (pmB (bB cy ad (V.1, V.2.1, V.2.2.1, V.2.2.2.1, V.2.1, V.2.2.2.2.2.1, V.2.2.2.2.2.2)) 5 _ (cS cy (ad 4) V.2.1) rfl).1.symm)
      have hD : va_D A (wB cy ad (V.1, V.2.1, V.2.2.1, V.2.2.2.1, V.2.1, V.2.2.2.2.2.1, V.2.2.2.2.2.2)) := vD_perm hD ((pmB2 (bB cy ad V) 5 2 _ _ (cS cy (ad 4) V.2.1) (cS cy (ad 1) V.2.1) rfl rfl).2.trans (pmB (bB cy ad (V.1, V.2.1, V.2.2.1, V.2.2.2.1, V.2.1, V.2.2.2.2.2.1, V.2.2.2.2.2.2)) 5 _ (cS cy (ad 4) V.2.1) rfl).1.symm)
      refine lv_aload_n hx hb dX5_save_17 rfl (lv_at hl 0 rfl) ?_
      refine va_get (D := D) (ci := 4) (v := .ref (ad 0 0 2)) (C := RX5) (T := TX5) (N := 6) hx hb hts inX5_save_X5 hown hK hP 0 rfl rfl 5 (by decide) (hts _ (List.mem_of_getElem? (i := 3) rfl)) (fun _ h9 => h9) rfl dX5_save_18 ?_
      refine lv_iload_n hx hb dX5_save_21 rfl (lv_at hl 1 rfl) ?_
      refine lv_iconst (v := 1) hx hb dX5_save_22 (by decide) ?_
      refine va_zast hx hb hK hP hD hS 2 1 rfl rfl (vp_c (by decide)) dX5_save_23 (fun H locs hP hD hS => ?_)
      have hP : va_P D vwCl (wB cy ad (V.1, V.2.1, V.2.2.1, V.2.2.2.1, V.2.1, V.2.2.2.2.2.1, (upd V.2.2.2.2.2.2 1 (1 : Int32)))) H := hP
      have hD : va_D A (wB cy ad (V.1, V.2.1, V.2.2.1, V.2.2.2.1, V.2.1, V.2.2.2.2.2.1, (upd V.2.2.2.2.2.2 1 (1 : Int32)))) := hD
      refine lv_aload_n hx hb dX5_save_24 rfl (lv_at hl 0 rfl) ?_
      refine va_get (D := D) (ci := 4) (v := .ref (ad 1 0 0)) (C := RX5) (T := TX5) (N := 6) hx hb hts inX5_save_X5 hown hK hP 0 rfl rfl 1 (by decide) (hts _ (List.mem_of_getElem? (i := 2) rfl)) (fun _ h9 => h9) rfl dX5_save_25 ?_
      refine va_get (D := D) (ci := 2) (v := .int (V.2.1.1 5 0)) (C := RX3) (T := TX3) (N := 11) hx hb hts inX5_save_X3 hown hK hP 7 rfl rfl 6 (by decide) (hts _ (List.mem_of_getElem? (i := 4) rfl)) (fun _ h9 => h9) rfl dX5_save_28 ?_
      have hr9 : (o_X5_save V (1 : Int32)) = ((0 : Int32), (V.2.1.1 5 0)) := by unfold o_X5_save; simp only [if_pos c_1, if_neg hd1, if_true, if_false]
      have hw9 : (w_X5_save V (1 : Int32)) = (V.1, V.2.1, V.2.2.1, V.2.2.2.1, V.2.1, V.2.2.2.2.2.1, (upd V.2.2.2.2.2.2 1 (1 : Int32))) := by unfold w_X5_save; simp only [if_pos c_1, if_neg hd1, if_true, if_false]
      exact hret _ H locs _ ls hr9 (by rw [hw9]; exact hP) (by rw [hw9]; exact hD) hS dX5_save_31

def o_X5_restore (V : BV) (slot : Int32) : Int32 × Int32 := (if (o_X5_checkSlot slot) = 0 then (if slot = 0 then (if (V.2.2.2.2.2.2 0) = 0 then ((-9999003 : Int32), (0 : Int32)) else ((0 : Int32), (V.2.2.2.1.1 5 0))) else (if (V.2.2.2.2.2.2 1) = 0 then ((-9999003 : Int32), (0 : Int32)) else ((0 : Int32), (V.2.2.2.2.1.1 5 0)))) else ((o_X5_checkSlot slot), (0 : Int32)))
def w_X5_restore (V : BV) (slot : Int32) : BV := (if (o_X5_checkSlot slot) = 0 then (if slot = 0 then (if (V.2.2.2.2.2.2 0) = 0 then V else (V.1, V.2.2.2.1, V.2.2.1, V.2.2.2.1, V.2.2.2.2.1, (V.2.2.2.2.2.1.1, 0, V.2.2.2.2.2.1.2.2), V.2.2.2.2.2.2)) else (if (V.2.2.2.2.2.2 1) = 0 then V else (V.1, V.2.2.2.2.1, V.2.2.1, V.2.2.2.1, V.2.2.2.2.1, (V.2.2.2.2.2.1.1, 0, V.2.2.2.2.2.1.2.2), V.2.2.2.2.2.2))) else V)
abbrev rX5_restore : Room := { frames := 7, cells := 2, slots := 12, locals := 110 }
theorem inX5_restore_X1 : ∀ w ∈ u_ws RX1 TX1 3, w ∈ wsX5_restore := by decide +kernel
theorem inX5_restore_X3 : ∀ w ∈ u_ws RX3 TX3 11, w ∈ wsX5_restore := by decide +kernel
theorem inX5_restore_X5 : ∀ w ∈ u_ws RX5 TX5 6, w ∈ wsX5_restore := by decide +kernel
set_option maxHeartbeats 4000000 in
set_option maxRecDepth 100000 in
theorem c_X5_restore (l : Launch) (hlt : l.stackTraces = false) (D : va_G) (cy : Nat → ClassId) (ad : AD) (V : BV) (slot : Int32) (sz : Nat)  : CX l yX5_restore wsX5_restore rX5_restore D cy [.ref (ad 0 0 0), .int slot] (wB cy ad V) sz (o_X5_restore V slot) (wB cy ad (w_X5_restore V slot)) 2 12 := by
  refine stx_i (ty := .int) (cc := cX5_restore) (maxL := 2) (by decide) rfl rfl (Nat.le_of_ble_eq_true rfl) ?_
  intro pp e s m below meth c A Q ls hx hb hts hown hml hlocks htab hsz hP hK hD hE hA hl hAe hQ hret hout
  subst hsz
  have hown : s.vm.findClass RX5 = some m.cls := hown
  have hl : lv_has ls 2 [(0, .ref (ad 0 0 0)), (1, .int slot)] := hl
  obtain ⟨H, hH⟩ : ∃ H, H = s.heap := ⟨_, rfl⟩
  rw [← hH] at hP ⊢
  have hS : va_S A s.heap H [] := by rw [hH]; exact va_S.rf
  obtain ⟨locs, hlo⟩ : ∃ locs : List Loc, locs = [] := ⟨_, rfl⟩
  rw [← hlo] at hS ⊢
  refine lv_iload_n hx hb dX5_restore_0 rfl (lv_at hl 1 rfl) ?_
  refine clx_n (vx_runS (As := [.int slot]) (rest := []) ⟨hx, hb, hml, hown, hts⟩ (c_X5_checkSlot l hlt D cy slot H.size) (va_cwS 1 hts gX5_restore_X5_checkSlot rfl rfl rfl (by decide +kernel) ⟨Nat.le_of_ble_eq_true rfl, Nat.le_of_ble_eq_true rfl⟩) ⟨blU, preU hP hD (List.Perm.refl _) hK hE hS hA⟩ rfl rfl hl.1 rfl (lv_room (Nat.le_of_ble_eq_true rfl)) dX5_restore_1 ⟨Nat.le_of_ble_eq_true rfl, Nat.le_of_ble_eq_true rfl⟩) hP hD (List.Perm.refl _) hS hA (fun c_1 q9 ce H locs hq hv hcl hP hD hS => ?_) (fun c_1 H locs hP hD hS => ?_)
  · have hP : va_P D vwCl (wB cy ad V) H := vP_perm hP (List.Perm.refl _)
    have hD : va_D A (wB cy ad V) := vD_perm hD (List.Perm.refl _)
    have ho9 : (o_X5_restore V slot).1 = (o_X5_checkSlot slot) := by unfold o_X5_restore; simp only [if_neg c_1, if_true, if_false]
    have hw9 : (w_X5_restore V slot) = V := by unfold w_X5_restore; simp only [if_neg c_1, if_true, if_false]
    exact vx_widen (k := 2) (n := 12) (Nat.le_of_ble_eq_true rfl) (Nat.le_of_ble_eq_true rfl) (hout _ q9 ce H locs _ ls _ ho9 c_1 hq hv hcl (by rw [hw9]; exact hP) (by rw [hw9]; exact hD) hS)
  · have hP : va_P D vwCl (wB cy ad V) H := vP_perm hP (List.Perm.refl _)
    have hD : va_D A (wB cy ad V) := vD_perm hD (List.Perm.refl _)
    have hd := (ckSlot_of c_1)
    rcases hd with hd | hd
    · subst hd
      have hd0 : (0 : Int32) = 0 := by decide
      have hl : lv_has ls 2 [(0, .ref (ad 0 0 0)), (1, .int (0 : Int32))] := hl
      refine lv_aload_n hx hb dX5_restore_4 rfl (lv_at hl 0 rfl) ?_
      refine va_get (D := D) (ci := 4) (v := .ref (ad 0 0 2)) (C := RX5) (T := TX5) (N := 6) hx hb hts inX5_restore_X5 hown hK hP 0 rfl rfl 5 (by decide) (hts _ (List.mem_of_getElem? (i := 3) rfl)) (fun _ h9 => h9) rfl dX5_restore_5 ?_
      refine lv_iload_n hx hb dX5_restore_8 rfl (lv_at hl 1 rfl) ?_
      refine va_zald hx hb hK hP 2 1 rfl rfl (vp_c (by decide)) dX5_restore_9 ?_
      refine lv_topi (fun yy eyy => ?_)
      have eyy : yy = (V.2.2.2.2.2.2 0) := by rw [eyy]; rfl
      subst eyy
      refine lv_if_ne (tgt := 23) hx hb dX5_restore_10 (by decide) (fun c_2 => ?_) (fun c_2 => ?_)
      · refine lv_aload_n hx hb dX5_restore_23 rfl (lv_at hl 0 rfl) ?_
        refine va_get (D := D) (ci := 4) (v := .ref (ad 1 0 0)) (C := RX5) (T := TX5) (N := 6) hx hb hts inX5_restore_X5 hown hK hP 0 rfl rfl 1 (by decide) (hts _ (List.mem_of_getElem? (i := 4) rfl)) (fun _ h9 => h9) rfl dX5_restore_24 ?_
        refine lv_aload_n hx hb dX5_restore_27 rfl (lv_at hl 0 rfl) ?_
        refine va_get (D := D) (ci := 4) (v := .ref (ad 0 0 1)) (C := RX5) (T := TX5) (N := 6) hx hb hts inX5_restore_X5 hown hK hP 0 rfl rfl 4 (by decide) (hts _ (List.mem_of_getElem? (i := 5) rfl)) (fun _ h9 => h9) rfl dX5_restore_28 ?_
        refine lv_iload_n hx hb dX5_restore_31 rfl (lv_at hl 1 rfl) ?_
        refine x_aldq (v := .ref (ad 3 0 0)) hx hb hK hP 1 3 rfl rfl (vp_c (by decide)) rfl dX5_restore_32 ?_
        refine cl_n (va_runV (As := [.ref (ad 3 0 0)]) (rest := []) ⟨hx, hb, hml, hown, hts⟩ (c_X3_copyFrom l D cy (ad 1) (ad 3) V.2.1 V.2.2.2.1 H.size) (cwV 1 hts gX5_restore_X3_copyFrom rfl rfl rfl (by decide +kernel) ⟨Nat.le_of_ble_eq_true rfl, Nat.le_of_ble_eq_true rfl⟩) ⟨blU, va_recv hK hP (ci := 2) (q0 := 7) rfl rfl, preU hP hD (pmB2 (bB cy ad V) 2 3 _ _ (cS cy (ad 1) V.2.2.2.1) (cS cy (ad 3) V.2.2.2.1) rfl rfl).1 hK hE hS hA⟩ rfl rfl hl.1 rfl (lv_room (Nat.le_of_ble_eq_true rfl)) dX5_restore_33 ⟨Nat.le_of_ble_eq_true rfl, Nat.le_of_ble_eq_true rfl⟩) hP hD (pmB2 (bB cy ad V) 2 3 _ _ (cS cy (ad 1) V.2.2.2.1) (cS cy (ad 3) V.2.2.2.1) rfl rfl).1 hS hA (fun H locs hP hD hS => ?_)
        have hP : va_P D vwCl (wB cy ad (V.1, V.2.2.2.1, V.2.2.1, V.2.2.2.1, V.2.2.2.2.1, V.2.2.2.2.2.1, V.2.2.2.2.2.2)) H := vP_perm hP ((pmB2 (bB cy ad V) 2 3 _ _ (cS cy (ad 1) V.2.2.2.1) (cS cy (ad 3) V.2.2.2.1) rfl rfl).2.trans (pmB (bB cy ad (V.1, V.2.2.2.1, V.2.2.1, V.2.2.2.1, V.2.2.2.2.1, V.2.2.2.2.2.1, V.2.2.2.2.2.2)) 2 _ (cS cy (ad 1) V.2.2.2.1) rfl).1.symm)
        have hD : va_D A (wB cy ad (V.1, V.2.2.2.1, V.2.2.1, V.2.2.2.1, V.2.2.2.2.1, V.2.2.2.2.2.1, V.2.2.2.2.2.2)) := vD_perm hD ((pmB2 (bB cy ad V) 2 3 _ _ (cS cy (ad 1) V.2.2.2.1) (cS cy (ad 3) V.2.2.2.1) rfl rfl).2.trans (pmB (bB cy ad (V.1, V.2.2.2.1, V.2.2.1, V.2.2.2.1, V.2.2.2.2.1, V.2.2.2.2.2.1, V.2.2.2.2.2.2)) 2 _ (cS cy (ad 1) V.2.2.2.1) rfl).1.symm)
        refine lv_aload_n hx hb dX5_restore_36 rfl (lv_at hl 0 rfl) ?_
        refine va_get (D := D) (ci := 4) (v := .ref (ad 0 2 0)) (C := RX5) (T := TX5) (N := 6) hx hb hts inX5_restore_X5 hown hK hP 0 rfl rfl 3 (by decide) (hts _ (List.mem_of_getElem? (i := 6) rfl)) (fun _ h9 => h9) rfl dX5_restore_37 ?_
        refine lv_iconst (v := 0) hx hb dX5_restore_40 (by decide) ?_
        refine va_put (D := D) (ci := 1) (v := .int (0 : Int32)) (ty := .int) (C := RX1) (T := TX1) (N := 3) hx hb hts inX5_restore_X1 tyX1 tyX1_ok nmX1 hown hK hP hD hS 91 rfl rfl 2 (by decide) (hts _ (List.mem_of_getElem? (i := 7) rfl)) (fun _ h9 => h9) rfl (by decide +kernel) rfl rfl (Nat.le_of_ble_eq_true rfl) dX5_restore_41 (fun H locs hP hD hS => ?_)
        have hP : va_P D vwCl (wB cy ad (V.1, V.2.2.2.1, V.2.2.1, V.2.2.2.1, V.2.2.2.2.1, (V.2.2.2.2.2.1.1, 0, V.2.2.2.2.2.1.2.2), V.2.2.2.2.2.2)) H := hP
        have hD : va_D A (wB cy ad (V.1, V.2.2.2.1, V.2.2.1, V.2.2.2.1, V.2.2.2.2.1, (V.2.2.2.2.2.1.1, 0, V.2.2.2.2.2.1.2.2), V.2.2.2.2.2.2)) := hD
        refine lv_aload_n hx hb dX5_restore_44 rfl (lv_at hl 0 rfl) ?_
        refine va_get (D := D) (ci := 4) (v := .ref (ad 1 0 0)) (C := RX5) (T := TX5) (N := 6) hx hb hts inX5_restore_X5 hown hK hP 0 rfl rfl 1 (by decide) (hts _ (List.mem_of_getElem? (i := 4) rfl)) (fun _ h9 => h9) rfl dX5_restore_45 ?_
        refine va_get (D := D) (ci := 2) (v := .int (V.2.2.2.1.1 5 0)) (C := RX3) (T := TX3) (N := 11) hx hb hts inX5_restore_X3 hown hK hP 7 rfl rfl 6 (by decide) (hts _ (List.mem_of_getElem? (i := 8) rfl)) (fun _ h9 => h9) rfl dX5_restore_48 ?_
        refine W.widen (k := 2) (n := 12) (Nat.le_of_ble_eq_true rfl) (Nat.le_of_ble_eq_true rfl) ?_
        have hr9 : (o_X5_restore V (0 : Int32)) = ((0 : Int32), (V.2.2.2.1.1 5 0)) := by unfold o_X5_restore; simp only [if_pos c_1, if_pos hd0, if_neg c_2, if_true, if_false]
        have hw9 : (w_X5_restore V (0 : Int32)) = (V.1, V.2.2.2.1, V.2.2.1, V.2.2.2.1, V.2.2.2.2.1, (V.2.2.2.2.2.1.1, 0, V.2.2.2.2.2.1.2.2), V.2.2.2.2.2.2) := by unfold w_X5_restore; simp only [if_pos c_1, if_pos hd0, if_neg c_2, if_true, if_false]
        exact hret _ H locs _ ls hr9 (by rw [hw9]; exact hP) (by rw [hw9]; exact hD) hS dX5_restore_51
      · have ho9 : (o_X5_restore V (0 : Int32)).1 = (-9999003 : Int32) := by unfold o_X5_restore; simp only [if_pos c_1, if_pos hd0, if_pos c_2, if_true, if_false]
        have hw9 : (w_X5_restore V (0 : Int32)) = V := by unfold w_X5_restore; simp only [if_pos c_1, if_pos hd0, if_pos c_2, if_true, if_false]
        rw [hQ]
        exact thr_3 (text := "nothing is saved in this slot") hx hb hlt hown (hts _ (List.mem_of_getElem? (i := 1) rfl)) (hts _ (List.mem_of_getElem? (i := 2) rfl)) (fun w hw => hts w (List.mem_cons_of_mem _ (List.mem_append_left _ (List.mem_append_right _ hw)))) (by decide +kernel) hE hS (hl.1.trans hml.symm) dX5_restore_13 dX5_restore_16 dX5_restore_17 dX5_restore_19 dX5_restore_22 htab (Nat.le_of_ble_eq_true rfl) (Nat.le_of_ble_eq_true rfl) (Nat.le_of_ble_eq_true rfl) (Nat.le_of_ble_eq_true rfl) hlocks hAe ho9 (by rw [hw9]; exact hP) (by rw [hw9]; exact hD) (Nat.le_of_ble_eq_true rfl) (Nat.le_of_ble_eq_true rfl)
    · subst hd
      have hd1 : ¬ (1 : Int32) = 0 := by decide
      have hl : lv_has ls 2 [(0, .ref (ad 0 0 0)), (1, .int (1 : Int32))] := hl
      refine lv_aload_n hx hb dX5_restore_4 rfl (lv_at hl 0 rfl) ?_
      refine va_get (D := D) (ci := 4) (v := .ref (ad 0 0 2)) (C := RX5) (T := TX5) (N := 6) hx hb hts inX5_restore_X5 hown hK hP 0 rfl rfl 5 (by decide) (hts _ (List.mem_of_getElem? (i := 3) rfl)) (fun _ h9 => h9) rfl dX5_restore_5 ?_
      refine lv_iload_n hx hb dX5_restore_8 rfl (lv_at hl 1 rfl) ?_
      refine va_zald hx hb hK hP 2 1 rfl rfl (vp_c (by decide)) dX5_restore_9 ?_
      refine lv_topi (fun yy eyy => ?_)
      have eyy : yy = (V.2.2.2.2.2.2 1) := by rw [eyy]; rfl
      subst eyy
      refine lv_if_ne (tgt := 23) hx hb dX5_restore_10 (by decide) (fun c_3 => ?_) (fun c_3 => ?_)
      · refine lv_aload_n hx hb dX5_restore_23 rfl (lv_at hl 0 rfl) ?_
        refine va_get (D := D) (ci := 4) (v := .ref (ad 1 0 0)) (C := RX5) (T := TX5) (N := 6) hx hb hts inX5_restore_X5 hown hK hP 0 rfl rfl 1 (by decide) (hts _ (List.mem_of_getElem? (i := 4) rfl)) (fun _ h9 => h9) rfl dX5_restore_24 ?_
        refine lv_aload_n hx hb dX5_restore_27 rfl (lv_at hl 0 rfl) ?_
        refine va_get (D := D) (ci := 4) (v := .ref (ad 0 0 1)) (C := RX5) (T := TX5) (N := 6) hx hb hts inX5_restore_X5 hown hK hP 0 rfl rfl 4 (by decide) (hts _ (List.mem_of_getElem? (i := 5) rfl)) (fun _ h9 => h9) rfl dX5_restore_28 ?_
        refine lv_iload_n hx hb dX5_restore_31 rfl (lv_at hl 1 rfl) ?_
        refine x_aldq (v := .ref (ad 4 0 0)) hx hb hK hP 1 3 rfl rfl (vp_c (by decide)) rfl dX5_restore_32 ?_
        refine cl_n (va_runV (As := [.ref (ad 4 0 0)]) (rest := []) ⟨hx, hb, hml, hown, hts⟩ (c_X3_copyFrom l D cy (ad 1) (ad 4) V.2.1 V.2.2.2.2.1 H.size) (cwV 1 hts gX5_restore_X3_copyFrom rfl rfl rfl (by decide +kernel) ⟨Nat.le_of_ble_eq_true rfl, Nat.le_of_ble_eq_true rfl⟩) ⟨blU, va_recv hK hP (ci := 2) (q0 := 7) rfl rfl, preU hP hD (pmB2 (bB cy ad V) 2 4 _ _ (cS cy (ad 1) V.2.2.2.2.1) (cS cy (ad 4) V.2.2.2.2.1) rfl rfl).1 hK hE hS hA⟩ rfl rfl hl.1 rfl (lv_room (Nat.le_of_ble_eq_true rfl)) dX5_restore_33 ⟨Nat.le_of_ble_eq_true rfl, Nat.le_of_ble_eq_true rfl⟩) hP hD (pmB2 (bB cy ad V) 2 4 _ _ (cS cy (ad 1) V.2.2.2.2.1) (cS cy (ad 4) V.2.2.2.2.1) rfl rfl).1 hS hA (fun H locs hP hD hS => ?_)
        have hP : va_P D vwCl (wB cy ad (V.1, V.2.2.2.2.1, V.2.2.1, V.2.2.2.1, V.2.2.2.2.1, V.2.2.2.2.2.1, V.2.2.2.2.2.2)) H := vP_perm hP ((pmB2 (bB cy ad V) 2 4 _ _ (cS cy (ad 1) V.2.2.2.2.1) (cS cy (ad 4) V.2.2.2.2.1) rfl rfl).2.trans (pmB (bB cy ad (V.1, V.2.2.2.2.1, V.2.2.1, V.2.2.2.1, V.2.2.2.2.1, V.2.2.2.2.2.1, V.2.2.2.2.2.2)) 2 _ (cS cy (ad 1) V.2.2.2.2.1) rfl).1.symm)
        have hD : va_D A (wB cy ad (V.1, V.2.2.2.2.1, V.2.2.1, V.2.2.2.1, V.2.2.2.2.1, V.2.2.2.2.2.1, V.2.2.2.2.2.2)) := vD_perm hD ((pmB2 (bB cy ad V) 2 4 _ _ (cS cy (ad 1) V.2.2.2.2.1) (cS cy (ad 4) V.2.2.2.2.1) rfl rfl).2.trans (pmB (bB cy ad (V.1, V.2.2.2.2.1, V.2.2.1, V.2.2.2.1, V.2.2.2.2.1, V.2.2.2.2.2.1, V.2.2.2.2.2.2)) 2 _ (cS cy (ad 1) V.2.2.2.2.1) rfl).1.symm)
        refine lv_aload_n hx hb dX5_restore_36 rfl (lv_at hl 0 rfl) ?_
        refine va_get (D := D) (ci := 4) (v := .ref (ad 0 2 0)) (C := RX5) (T := TX5) (N := 6) hx hb hts inX5_restore_X5 hown hK hP 0 rfl rfl 3 (by decide) (hts _ (List.mem_of_getElem? (i := 6) rfl)) (fun _ h9 => h9) rfl dX5_restore_37 ?_
        refine lv_iconst (v := 0) hx hb dX5_restore_40 (by decide) ?_
        refine va_put (D := D) (ci := 1) (v := .int (0 : Int32)) (ty := .int) (C := RX1) (T := TX1) (N := 3) hx hb hts inX5_restore_X1 tyX1 tyX1_ok nmX1 hown hK hP hD hS 91 rfl rfl 2 (by decide) (hts _ (List.mem_of_getElem? (i := 7) rfl)) (fun _ h9 => h9) rfl (by decide +kernel) rfl rfl (Nat.le_of_ble_eq_true rfl) dX5_restore_41 (fun H locs hP hD hS => ?_)
        have hP : va_P D vwCl (wB cy ad (V.1, V.2.2.2.2.1, V.2.2.1, V.2.2.2.1, V.2.2.2.2.1, (V.2.2.2.2.2.1.1, 0, V.2.2.2.2.2.1.2.2), V.2.2.2.2.2.2)) H := hP
        have hD : va_D A (wB cy ad (V.1, V.2.2.2.2.1, V.2.2.1, V.2.2.2.1, V.2.2.2.2.1, (V.2.2.2.2.2.1.1, 0, V.2.2.2.2.2.1.2.2), V.2.2.2.2.2.2)) := hD
        refine lv_aload_n hx hb dX5_restore_44 rfl (lv_at hl 0 rfl) ?_
        refine va_get (D := D) (ci := 4) (v := .ref (ad 1 0 0)) (C := RX5) (T := TX5) (N := 6) hx hb hts inX5_restore_X5 hown hK hP 0 rfl rfl 1 (by decide) (hts _ (List.mem_of_getElem? (i := 4) rfl)) (fun _ h9 => h9) rfl dX5_restore_45 ?_
        refine va_get (D := D) (ci := 2) (v := .int (V.2.2.2.2.1.1 5 0)) (C := RX3) (T := TX3) (N := 11) hx hb hts inX5_restore_X3 hown hK hP 7 rfl rfl 6 (by decide) (hts _ (List.mem_of_getElem? (i := 8) rfl)) (fun _ h9 => h9) rfl dX5_restore_48 ?_
        refine W.widen (k := 2) (n := 12) (Nat.le_of_ble_eq_true rfl) (Nat.le_of_ble_eq_true rfl) ?_
        have hr9 : (o_X5_restore V (1 : Int32)) = ((0 : Int32), (V.2.2.2.2.1.1 5 0)) := by unfold o_X5_restore; simp only [if_pos c_1, if_neg hd1, if_neg c_3, if_true, if_false]
        have hw9 : (w_X5_restore V (1 : Int32)) = (V.1, V.2.2.2.2.1, V.2.2.1, V.2.2.2.1, V.2.2.2.2.1, (V.2.2.2.2.2.1.1, 0, V.2.2.2.2.2.1.2.2), V.2.2.2.2.2.2) := by unfold w_X5_restore; simp only [if_pos c_1, if_neg hd1, if_neg c_3, if_true, if_false]
        exact hret _ H locs _ ls hr9 (by rw [hw9]; exact hP) (by rw [hw9]; exact hD) hS dX5_restore_51
      · have ho9 : (o_X5_restore V (1 : Int32)).1 = (-9999003 : Int32) := by unfold o_X5_restore; simp only [if_pos c_1, if_neg hd1, if_pos c_3, if_true, if_false]
        have hw9 : (w_X5_restore V (1 : Int32)) = V := by unfold w_X5_restore; simp only [if_pos c_1, if_neg hd1, if_pos c_3, if_true, if_false]
        rw [hQ]
        exact thr_3 (text := "nothing is saved in this slot") hx hb hlt hown (hts _ (List.mem_of_getElem? (i := 1) rfl)) (hts _ (List.mem_of_getElem? (i := 2) rfl)) (fun w hw => hts w (List.mem_cons_of_mem _ (List.mem_append_left _ (List.mem_append_right _ hw)))) (by decide +kernel) hE hS (hl.1.trans hml.symm) dX5_restore_13 dX5_restore_16 dX5_restore_17 dX5_restore_19 dX5_restore_22 htab (Nat.le_of_ble_eq_true rfl) (Nat.le_of_ble_eq_true rfl) (Nat.le_of_ble_eq_true rfl) (Nat.le_of_ble_eq_true rfl) hlocks hAe ho9 (by rw [hw9]; exact hP) (by rw [hw9]; exact hD) (Nat.le_of_ble_eq_true rfl) (Nat.le_of_ble_eq_true rfl)

/-- only where pl is no place -/
def o_X5_sharing (d pl : Int32) : Int32 × Int32 := if o_X5_checkDesk d = 0 then (o_X5_checkPlace pl, 0) else (o_X5_checkDesk d, 0)

abbrev rX5_sharing : Room := { frames := 7, cells := 2, slots := 12, locals := 110 }
set_option maxHeartbeats 4000000 in
set_option maxRecDepth 100000 in
theorem c_X5_sharing (l : Launch) (hlt : l.stackTraces = false) (D : va_G) (cy : Nat → ClassId) (ad : AD) (V : BV) (d : Int32) (pl : Int32) (sz : Nat) (hnp : ¬ o_X5_checkPlace pl = 0) : CX l yX5_sharing wsX5_sharing rX5_sharing D cy [.ref (ad 0 0 0), .int d, .int pl] (wB cy ad V) sz (o_X5_sharing d pl) (wB cy ad V) 2 12 := by
  refine stx_i (ty := .int) (cc := cX5_sharing) (maxL := 6) (by decide) rfl rfl (Nat.le_of_ble_eq_true rfl) ?_
  intro pp e s m below meth c A Q ls hx hb hts hown hml hlocks htab hsz hP hK hD hE hA hl hAe hQ hret hout
  subst hsz
  have hown : s.vm.findClass RX5 = some m.cls := hown
  have hl : lv_has ls 6 [(0, .ref (ad 0 0 0)), (1, .int d), (2, .int pl)] := hl
  obtain ⟨H, hH⟩ : ∃ H, H = s.heap := ⟨_, rfl⟩
  rw [← hH] at hP ⊢
  have hS : va_S A s.heap H [] := by rw [hH]; exact va_S.rf
  obtain ⟨locs, hlo⟩ : ∃ locs : List Loc, locs = [] := ⟨_, rfl⟩
  rw [← hlo] at hS ⊢
  refine lv_iload_n hx hb dX5_sharing_0 rfl (lv_at hl 1 rfl) ?_
  refine clx_n (vx_runS (As := [.int d]) (rest := []) ⟨hx, hb, hml, hown, hts⟩ (c_X5_checkDesk l hlt D cy d H.size) (va_cwS 1 hts gX5_sharing_X5_checkDesk rfl rfl rfl (by decide +kernel) ⟨Nat.le_of_ble_eq_true rfl, Nat.le_of_ble_eq_true rfl⟩) ⟨blU, preU hP hD (List.Perm.refl _) hK hE hS hA⟩ rfl rfl hl.1 rfl (lv_room (Nat.le_of_ble_eq_true rfl)) dX5_sharing_1 ⟨Nat.le_of_ble_eq_true rfl, Nat.le_of_ble_eq_true rfl⟩) hP hD (List.Perm.refl _) hS hA (fun c_1 q9 ce H locs hq hv hcl hP hD hS => ?_) (fun c_1 H locs hP hD hS => ?_)
  · have hP : va_P D vwCl (wB cy ad V) H := vP_perm hP (List.Perm.refl _)
    have hD : va_D A (wB cy ad V) := vD_perm hD (List.Perm.refl _)
    have ho9 : (o_X5_sharing d pl).1 = (o_X5_checkDesk d) := by unfold o_X5_sharing; simp only [if_neg c_1, if_true, if_false]
    exact vx_widen (k := 2) (n := 12) (Nat.le_of_ble_eq_true rfl) (Nat.le_of_ble_eq_true rfl) (hout _ q9 ce H locs _ ls _ ho9 c_1 hq hv hcl hP hD hS)
  · have hP : va_P D vwCl (wB cy ad V) H := vP_perm hP (List.Perm.refl _)
    have hD : va_D A (wB cy ad V) := vD_perm hD (List.Perm.refl _)
    refine lv_iload_n hx hb dX5_sharing_4 rfl (lv_at hl 2 rfl) ?_
    refine clx_n (vx_runS (As := [.int pl]) (rest := []) ⟨hx, hb, hml, hown, hts⟩ (c_X5_checkPlace l hlt D cy pl H.size) (va_cwS 1 hts gX5_sharing_X5_checkPlace rfl rfl rfl (by decide +kernel) ⟨Nat.le_of_ble_eq_true rfl, Nat.le_of_ble_eq_true rfl⟩) ⟨blU, preU hP hD (List.Perm.refl _) hK hE hS hA⟩ rfl rfl hl.1 rfl (lv_room (Nat.le_of_ble_eq_true rfl)) dX5_sharing_5 ⟨Nat.le_of_ble_eq_true rfl, Nat.le_of_ble_eq_true rfl⟩) hP hD (List.Perm.refl _) hS hA (fun c_2 q9 ce H locs hq hv hcl hP hD hS => ?_) (fun c_2 H locs hP hD hS => ?_)
    · have hP : va_P D vwCl (wB cy ad V) H := vP_perm hP (List.Perm.refl _)
      have hD : va_D A (wB cy ad V) := vD_perm hD (List.Perm.refl _)
      have ho9 : (o_X5_sharing d pl).1 = (o_X5_checkPlace pl) := by unfold o_X5_sharing; simp only [if_pos c_1, if_neg c_2, if_true, if_false]
      exact vx_widen (k := 2) (n := 12) (Nat.le_of_ble_eq_true rfl) (Nat.le_of_ble_eq_true rfl) (hout _ q9 ce H locs _ ls _ ho9 c_2 hq hv hcl hP hD hS)
    · have hP : va_P D vwCl (wB cy ad V) H := vP_perm hP (List.Perm.refl _)
      have hD : va_D A (wB cy ad V) := vD_perm hD (List.Perm.refl _)
      exact absurd c_2 hnp

