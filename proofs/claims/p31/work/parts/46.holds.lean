/-! ===== the law: holds ===== -/
abbrev rL_holds : Room := { frames := 10, cells := 1670, slots := 10020, locals := 209 }
/-- what follows the guesses: the text is tried, played, undone -/
def TailF (V V3 V4 Vf : BV) (br pl : Int32) : Prop := w_X5_wouldBring V = V3 ∧ r_X5_wouldBring V = br ∧ r_L_call V3 1 2 0 0 = V.2.1.1 7 0 ∧ r_L_call V3 11 0 0 0 = pl ∧ w_L_call V3 11 0 0 0 = V4 ∧ Vf.2.1 = V.2.1 ∧
  ((br = -99999 ∧ pl = -9999003 ∧ Vf = V4) ∨ (∃ V5 : BV, ¬ br = -99999 ∧ ¬ pl < 0 ∧ r_L_call V4 1 2 0 0 = V.2.1.1 7 0 + br ∧ r_L_call V4 1 0 0 0 = V.2.1.1 5 0 + r_X5_branches V4 ∧ w_X5_branches V4 = V5 ∧ r_L_call V5 1 1 0 0 = V.2.1.1 6 0 + pl ∧ ¬ r_L_call V5 12 0 0 0 < 0 ∧ w_L_call V5 12 0 0 0 = Vf))
theorem tail_f {B : Nat} {V : BV} (hB : BInv B V) (hb : B + 300 < 2 ^ 30) : ∃ (V3 V4 Vf : BV) (br pl : Int32), TailF V V3 V4 Vf br pl := by
  by_cases hp : r_X4_isPlayable V.1 = 0
  · obtain ⟨t1, t2, t3, t4⟩ := tail_n hB.1 hp
    exact ⟨_, _, _, _, _, rfl, t1, (fb_a2 _ 0 0).trans (by rw [t2]), t3, rfl, t4, Or.inl ⟨rfl, rfl, rfl⟩⟩
  · obtain ⟨V3, V4, V5, V6, br, pl, t1, t2, t3, t4, t5, t6, t7, t8, t9, u1, u2, u3, u4, u5⟩ := tail_p hB hb hp
    exact ⟨V3, V4, V6, br, pl, t1, t2, t4, t5, t6, u5, Or.inr ⟨V5, t3, t7, t8, t9, u1, u2, u3, u4⟩⟩
def HoldsOK (B : Nat) (V : BV) (x : Int32) : Prop := ∃ V1 : BV, BInv (B + 310) V1 ∧ ∀ (l : Launch) (_ : l.stackTraces = false) (D : va_G) (cy : Nat → ClassId) (ad : AD) (sz : Nat), CI l yL_holds wsL_holds rL_holds D cy [.ref (ad 0 0 0), .int x] (wB cy ad V) sz 1 (wB cy ad V1) 1670 10020
set_option maxHeartbeats 8000000 in
set_option maxRecDepth 100000 in
theorem holds_ok {B : Nat} {V : BV} (hB : BInv B V) (hb : B + 1000 < 2 ^ 24) {x : Int32} {n : Nat} (hxn : x = nI n) (hn : n < 2 ^ 31) : HoldsOK B V x := by
  have hst := hB.2.1
  obtain ⟨N, hN, z, m0, q, ⟨⟨z1, z2, z3⟩, mm, q1, q2⟩, ⟨G, T, R, sr, L0, k1, k2, k3, k4, k5, k6, k7, k8, k9⟩, hD1, hD2⟩ := hst
  have hRN : sN R 26 ≤ sN G 26 := sN_le 26 (fun j hj => (k1 j hj).2.2)
  have hGB : ∀ j, j < 26 → G j ≤ B := fun j hj => by have := sN_mem (f := G) 26 hj; omega
  have h64 : 2 ^ z ≤ 64 := Nat.le_trans (Nat.pow_le_pow_right (by decide) z2) (by decide)
  obtain ⟨UU, FF, CC, hdk⟩ := dk_f z3 z1 z2 (show N < 2 ^ 30 by omega) hD1 hD2
  obtain ⟨p0, hp0, e26⟩ : ∃ p0, p0 < 26 ∧ x - x / (26 : Int32) * (26 : Int32) = nI p0 := ⟨n % 26, Nat.mod_lt _ (by decide), rm_of hxn hn rfl (by decide) (by decide)⟩
  obtain ⟨gv, hgv⟩ : ∃ gv, r_X3_guessFor V.2.1 (nI p0) = gv := ⟨_, rfl⟩
  obtain ⟨tk, htk⟩ : ∃ tk : Int32, tk = if gv = 0 then (1 : Int32) else (0 : Int32) := ⟨_, rfl⟩
  obtain ⟨h, hh1, hh2, hh3, hh4, hh5⟩ := hd_f V hp0 hgv htk 0 0
  obtain ⟨V1, hV1⟩ : ∃ V9, w_L_call V 16 (nI p0) 0 0 = V9 := ⟨_, rfl⟩
  have hB1 : BInv B V1 := by rw [← hV1, wc_16]; exact hB.holdsP _
  have hs1 : V1.2.1 = V.2.1 := by
    rw [← hV1, wc_16]
    unfold w_X5_holds
    split <;> rfl
  obtain ⟨V2, hV2⟩ : ∃ V9, (if h < 6 then unN (brN V1 (nI p0) tk h) h else V1) = V9 := ⟨_, rfl⟩
  have h2 : BInv (B + 10) V2 ∧ V2.2.1 = V.2.1 := by
    rw [← hV2]
    by_cases h6 : h < 6
    · rw [if_pos h6]
      have b1 := brN_inv hB1 (by omega) (nI p0) tk h (by omega)
      obtain ⟨c1, c2, c3, c4⟩ := brN_st hB1 (by omega) hp0 tk h (by omega)
      have u1 := unN_st (f := goT V1.2.1 (nI p0) tk) c3 c4 c2 h (Nat.le_refl _)
      refine ⟨(unN_inv b1 h).mono (by omega), ?_⟩
      rw [u1.2.1, Nat.sub_self]
      exact hs1
    · rw [if_neg h6]
      exact ⟨hB1.mono (by omega), hs1⟩
  obtain ⟨hB2, hs2⟩ := h2
  obtain ⟨V3, V4, Vf, br, pl, t1, t2, t3, t4, t5, t6, td⟩ := tail_f hB2 (by omega)
  have e5 : V2.2.1.1 5 0 = nI (sN G 26) := by rw [hs2, k3, k2]
  have e6 : V2.2.1.1 6 0 = nI (sN R 26) := by rw [hs2, k4]
  have hB3 : BInv (B + 10) V3 := by rw [← t1]; exact hB2.wouldB
  have hB4 : BInv (B + 310) V4 := by rw [← t5, wc_11]; exact hB3.play (by omega)
  have hBf : BInv (B + 310) Vf := by
    rcases td with ⟨d1, d2, d3⟩ | ⟨V5, d1, d2, d3, d4, d5, d6, d7, d8⟩
    · rw [d3]
      exact hB4
    · rw [← d8, wc_12, ← d5]
      exact hB4.branchesP.undo
  refine ⟨Vf, hBf, fun l hlt D cy ad sz => ?_⟩
  refine st_i (ty := .boolean) (cc := cL_holds) (maxL := 11) (by decide) rfl rfl (Nat.le_of_ble_eq_true rfl) ?_
  intro pp e s m below meth c A Q ls hx hb hts hown hml hlocks hsz hP hK hD hE hA hl hret
  subst hsz
  have hown : s.vm.findClass RL = some m.cls := hown
  have hl : lv_has ls 11 [(0, .ref (ad 0 0 0)), (1, .int x)] := hl
  obtain ⟨H, hH⟩ : ∃ H, H = s.heap := ⟨_, rfl⟩
  rw [← hH] at hP ⊢
  have hS : va_S A s.heap H [] := by rw [hH]; exact va_S.rf
  obtain ⟨locs, hlo⟩ : ∃ locs : List Loc, locs = [] := ⟨_, rfl⟩
  rw [← hlo] at hS ⊢
  have tl621 : ∀ (H : Heap) (locs : List Loc), va_P D vwCl (wB cy ad V2) H → va_D A (wB cy ad V2) → va_S A s.heap H locs → ∀ ls : Array Slot, lv_has ls 11 [(4, .int (1 : Int32)), (2, .int (nI (sN G 26))), (3, .int (nI (sN R 26))), (0, .ref (ad 0 0 0)), (1, .int x)] → W pp l e rL_holds s m ([.ref (ad 0 0 0), .int x] : List Value).toArray below meth c H locs 1640 9840 Q (F0 m 621 ls []) := by
    intro H locs hP hD hS ls hl
    refine lv_aload_n hx hb dL_holds_621 rfl (lv_at hl 3 rfl) ?_
    refine cl_i (va_runV (As := []) (rest := []) ⟨hx, hb, hml, hown, hts⟩ (ci_eq (c_X5_wouldBring l D cy ad V2 H.size hB2.sz hB2.len hB2.lg) (t2) (t1)) (cwV 0 hts gL_holds_X5_wouldBring rfl rfl rfl (by decide +kernel) ⟨Nat.le_of_ble_eq_true rfl, Nat.le_of_ble_eq_true rfl⟩) ⟨blU, va_recv hK (vP_perm hP (pmI _)) (ci := 4) (q0 := 0) rfl rfl, preU hP hD (pmI _) hK hE hS hA⟩ rfl rfl hl.1 rfl (lv_room (Nat.le_of_ble_eq_true rfl)) dL_holds_622 ⟨Nat.le_of_ble_eq_true rfl, Nat.le_of_ble_eq_true rfl⟩) hP hD (pmI _) hS hA (fun H locs hP hD hS => ?_)
    have hP : va_P D vwCl (wB cy ad V3) H := vP_perm hP (pmI _).symm
    have hD : va_D A (wB cy ad V3) := vD_perm hD (pmI _).symm
    refine lv_istore (lv' := [(8, .int br), (4, .int (1 : Int32)), (2, .int (nI (sN G 26))), (3, .int (nI (sN R 26))), (0, .ref (ad 0 0 0)), (1, .int x)]) hx hb dL_holds_625 hl (by decide) rfl (fun ls hl => ?_)
    refine lv_aload_n hx hb dL_holds_627 rfl (lv_at hl 4 rfl) ?_
    refine lv_iconst (v := 1) hx hb dL_holds_628 (by decide) ?_
    refine lv_iconst (v := 2) hx hb dL_holds_629 (by decide) ?_
    refine lv_iconst (v := 0) hx hb dL_holds_630 (by decide) ?_
    refine lv_iconst (v := 0) hx hb dL_holds_631 (by decide) ?_
    refine cl_i (va_runS (As := [.ref (ad 0 0 0), .int (1 : Int32), .int (2 : Int32), .int (0 : Int32), .int (0 : Int32)]) (rest := []) ⟨hx, hb, hml, hown, hts⟩ (cca l hlt D cy ad (B := _) (V := V3) (V' := V3) hB3 (what := (1 : Int32)) (a := (2 : Int32)) (b := (0 : Int32)) (c := (0 : Int32)) (r := (V2.2.1.1 7 0)) (t3) ((wc_1 V3 (2 : Int32) (0 : Int32) (0 : Int32))) ((n15 (by decide))) H.size) (va_cwS 5 hts gL_holds_L_call rfl rfl rfl (by decide +kernel) ⟨Nat.le_of_ble_eq_true rfl, Nat.le_of_ble_eq_true rfl⟩) ⟨blU, preU hP hD (pmI _) hK hE hS hA⟩ rfl rfl hl.1 rfl (lv_room (Nat.le_of_ble_eq_true rfl)) dL_holds_632 ⟨Nat.le_of_ble_eq_true rfl, Nat.le_of_ble_eq_true rfl⟩) hP hD (pmI _) hS hA (fun H locs hP hD hS => ?_)
    have hP : va_P D vwCl (wB cy ad V3) H := vP_perm hP (pmI _).symm
    have hD : va_D A (wB cy ad V3) := vD_perm hD (pmI _).symm
    refine lv_istore (lv' := [(9, .int (V2.2.1.1 7 0)), (8, .int br), (4, .int (1 : Int32)), (2, .int (nI (sN G 26))), (3, .int (nI (sN R 26))), (0, .ref (ad 0 0 0)), (1, .int x)]) hx hb dL_holds_635 hl (by decide) rfl (fun ls hl => ?_)
    refine lv_aload_n hx hb dL_holds_637 rfl (lv_at hl 5 rfl) ?_
    refine lv_bipush (v := 11) hx hb dL_holds_638 (by decide) ?_
    refine lv_iconst (v := 0) hx hb dL_holds_640 (by decide) ?_
    refine lv_iconst (v := 0) hx hb dL_holds_641 (by decide) ?_
    refine lv_iconst (v := 0) hx hb dL_holds_642 (by decide) ?_
    refine cl_i (va_runS (As := [.ref (ad 0 0 0), .int (11 : Int32), .int (0 : Int32), .int (0 : Int32), .int (0 : Int32)]) (rest := []) ⟨hx, hb, hml, hown, hts⟩ (cca l hlt D cy ad (B := _) (V := V3) (V' := V4) hB3 (what := (11 : Int32)) (a := (0 : Int32)) (b := (0 : Int32)) (c := (0 : Int32)) (r := pl) (t4) (t5) ((n15 (by decide))) H.size) (va_cwS 5 hts gL_holds_L_call rfl rfl rfl (by decide +kernel) ⟨Nat.le_of_ble_eq_true rfl, Nat.le_of_ble_eq_true rfl⟩) ⟨blU, preU hP hD (pmI _) hK hE hS hA⟩ rfl rfl hl.1 rfl (lv_room (Nat.le_of_ble_eq_true rfl)) dL_holds_643 ⟨Nat.le_of_ble_eq_true rfl, Nat.le_of_ble_eq_true rfl⟩) hP hD (pmI _) hS hA (fun H locs hP hD hS => ?_)
    have hP : va_P D vwCl (wB cy ad V4) H := vP_perm hP (pmI _).symm
    have hD : va_D A (wB cy ad V4) := vD_perm hD (pmI _).symm
    refine lv_istore (lv' := [(10, .int pl), (9, .int (V2.2.1.1 7 0)), (8, .int br), (4, .int (1 : Int32)), (2, .int (nI (sN G 26))), (3, .int (nI (sN R 26))), (0, .ref (ad 0 0 0)), (1, .int x)]) hx hb dL_holds_646 hl (by decide) rfl (fun ls hl => ?_)
    refine lv_iload hx hb dL_holds_648 (lv_at hl 3 rfl) ?_
    refine lv_if_eq (tgt := 751) hx hb dL_holds_650 (by decide) (fun c_1 => absurd c_1 (by decide)) (fun c_1 => ?_)
    refine lv_iload hx hb dL_holds_653 (lv_at hl 2 rfl) ?_
    refine lv_ldc (v := (-99999)) hx hb hown (hts _ (List.mem_of_getElem? (i := 1) rfl)) dL_holds_655 ?_
    rcases td with ⟨d1, d2, d3⟩ | ⟨V5, d1, d2, d3, d4, d5, d6, d7, d8⟩
    · refine lv_icmp_ne (tgt := 670) hx hb dL_holds_657 (by decide) (fun c_2 => absurd d1 c_2) (fun c_2 => ?_)
      refine lv_iload hx hb dL_holds_660 (lv_at hl 0 rfl) ?_
      refine lv_ldc (v := (-9999003)) hx hb hown (hts _ (List.mem_of_getElem? (i := 3) rfl)) dL_holds_662 ?_
      refine lv_icmp_ne (tgt := 751) hx hb dL_holds_664 (by decide) (fun c_3 => absurd d2 c_3) (fun c_3 => ?_)
      refine lv_goto (tgt := 735) hx hb dL_holds_667 (by decide) ?_
      refine lv_aload_n hx hb dL_holds_735 rfl (lv_at hl 6 rfl) ?_
      refine lv_iconst (v := 1) hx hb dL_holds_736 (by decide) ?_
      refine lv_iconst (v := 0) hx hb dL_holds_737 (by decide) ?_
      refine lv_iconst (v := 0) hx hb dL_holds_738 (by decide) ?_
      refine lv_iconst (v := 0) hx hb dL_holds_739 (by decide) ?_
      refine cl_i (va_runS (As := [.ref (ad 0 0 0), .int (1 : Int32), .int (0 : Int32), .int (0 : Int32), .int (0 : Int32)]) (rest := []) ⟨hx, hb, hml, hown, hts⟩ (cca l hlt D cy ad (B := _) (V := V4) (V' := V4) hB4 (what := (1 : Int32)) (a := (0 : Int32)) (b := (0 : Int32)) (c := (0 : Int32)) (r := (nI (sN G 26))) ((fb_a0 V4 0 0).trans (by rw [← d3, t6, e5])) ((wc_1 V4 (0 : Int32) (0 : Int32) (0 : Int32))) ((n15 (by decide))) H.size) (va_cwS 5 hts gL_holds_L_call rfl rfl rfl (by decide +kernel) ⟨Nat.le_of_ble_eq_true rfl, Nat.le_of_ble_eq_true rfl⟩) ⟨blU, preU hP hD (pmI _) hK hE hS hA⟩ rfl rfl hl.1 rfl (lv_room (Nat.le_of_ble_eq_true rfl)) dL_holds_740 ⟨Nat.le_of_ble_eq_true rfl, Nat.le_of_ble_eq_true rfl⟩) hP hD (pmI _) hS hA (fun H locs hP hD hS => ?_)
      have hP : va_P D vwCl (wB cy ad V4) H := vP_perm hP (pmI _).symm
      have hD : va_D A (wB cy ad V4) := vD_perm hD (pmI _).symm
      refine lv_iload_n hx hb dL_holds_743 rfl (lv_at hl 4 rfl) ?_
      refine lv_icmp_ne (tgt := 751) hx hb dL_holds_744 (by decide) (fun c_4 => absurd rfl c_4) (fun c_4 => ?_)
      refine lv_iconst (v := 1) hx hb dL_holds_747 (by decide) ?_
      refine lv_goto (tgt := 752) hx hb dL_holds_748 (by decide) ?_
      refine W.widen (k := 1670) (n := 10020) (Nat.le_of_ble_eq_true rfl) (Nat.le_of_ble_eq_true rfl) ?_
      rw [← d3] at hP hD
      exact hret _ H locs _ ls rfl hP hD hS dL_holds_752
    · have hB5 : BInv (B + 310) V5 := by rw [← d5]; exact hB4.branchesP
      refine lv_icmp_ne (tgt := 670) hx hb dL_holds_657 (by decide) (fun c_5 => ?_) (fun c_5 => absurd c_5 d1)
      refine lv_iload hx hb dL_holds_670 (lv_at hl 0 rfl) ?_
      refine lv_if_lt (tgt := 751) hx hb dL_holds_672 (by decide) (fun c_6 => absurd c_6 d2) (fun c_6 => ?_)
      refine lv_aload_n hx hb dL_holds_675 rfl (lv_at hl 6 rfl) ?_
      refine lv_iconst (v := 1) hx hb dL_holds_676 (by decide) ?_
      refine lv_iconst (v := 2) hx hb dL_holds_677 (by decide) ?_
      refine lv_iconst (v := 0) hx hb dL_holds_678 (by decide) ?_
      refine lv_iconst (v := 0) hx hb dL_holds_679 (by decide) ?_
      refine cl_i (va_runS (As := [.ref (ad 0 0 0), .int (1 : Int32), .int (2 : Int32), .int (0 : Int32), .int (0 : Int32)]) (rest := []) ⟨hx, hb, hml, hown, hts⟩ (cca l hlt D cy ad (B := _) (V := V4) (V' := V4) hB4 (what := (1 : Int32)) (a := (2 : Int32)) (b := (0 : Int32)) (c := (0 : Int32)) (r := ((V2.2.1.1 7 0) + br)) (d3) ((wc_1 V4 (2 : Int32) (0 : Int32) (0 : Int32))) ((n15 (by decide))) H.size) (va_cwS 5 hts gL_holds_L_call rfl rfl rfl (by decide +kernel) ⟨Nat.le_of_ble_eq_true rfl, Nat.le_of_ble_eq_true rfl⟩) ⟨blU, preU hP hD (pmI _) hK hE hS hA⟩ rfl rfl hl.1 rfl (lv_room (Nat.le_of_ble_eq_true rfl)) dL_holds_680 ⟨Nat.le_of_ble_eq_true rfl, Nat.le_of_ble_eq_true rfl⟩) hP hD (pmI _) hS hA (fun H locs hP hD hS => ?_)
      have hP : va_P D vwCl (wB cy ad V4) H := vP_perm hP (pmI _).symm
      have hD : va_D A (wB cy ad V4) := vD_perm hD (pmI _).symm
      refine lv_iload hx hb dL_holds_683 (lv_at hl 1 rfl) ?_
      refine lv_iload hx hb dL_holds_685 (lv_at hl 2 rfl) ?_
      refine lv_iadd hx hb dL_holds_687 ?_
      refine lv_icmp_ne (tgt := 751) hx hb dL_holds_688 (by decide) (fun c_7 => absurd rfl c_7) (fun c_7 => ?_)
      refine lv_aload_n hx hb dL_holds_691 rfl (lv_at hl 6 rfl) ?_
      refine lv_iconst (v := 1) hx hb dL_holds_692 (by decide) ?_
      refine lv_iconst (v := 0) hx hb dL_holds_693 (by decide) ?_
      refine lv_iconst (v := 0) hx hb dL_holds_694 (by decide) ?_
      refine lv_iconst (v := 0) hx hb dL_holds_695 (by decide) ?_
      refine cl_i (va_runS (As := [.ref (ad 0 0 0), .int (1 : Int32), .int (0 : Int32), .int (0 : Int32), .int (0 : Int32)]) (rest := []) ⟨hx, hb, hml, hown, hts⟩ (cca l hlt D cy ad (B := _) (V := V4) (V' := V4) hB4 (what := (1 : Int32)) (a := (0 : Int32)) (b := (0 : Int32)) (c := (0 : Int32)) (r := ((nI (sN G 26)) + (r_X5_branches V4))) (d4.trans (by rw [e5])) ((wc_1 V4 (0 : Int32) (0 : Int32) (0 : Int32))) ((n15 (by decide))) H.size) (va_cwS 5 hts gL_holds_L_call rfl rfl rfl (by decide +kernel) ⟨Nat.le_of_ble_eq_true rfl, Nat.le_of_ble_eq_true rfl⟩) ⟨blU, preU hP hD (pmI _) hK hE hS hA⟩ rfl rfl hl.1 rfl (lv_room (Nat.le_of_ble_eq_true rfl)) dL_holds_696 ⟨Nat.le_of_ble_eq_true rfl, Nat.le_of_ble_eq_true rfl⟩) hP hD (pmI _) hS hA (fun H locs hP hD hS => ?_)
      have hP : va_P D vwCl (wB cy ad V4) H := vP_perm hP (pmI _).symm
      have hD : va_D A (wB cy ad V4) := vD_perm hD (pmI _).symm
      refine lv_iload_n hx hb dL_holds_699 rfl (lv_at hl 4 rfl) ?_
      refine lv_aload_n hx hb dL_holds_700 rfl (lv_at hl 6 rfl) ?_
      refine cl_i (va_runV (As := []) (rest := [.int (nI (sN G 26)), .int ((nI (sN G 26)) + (r_X5_branches V4))]) ⟨hx, hb, hml, hown, hts⟩ (ci_eq (c_X5_branches l D cy ad V4 H.size hB4.len hB4.lg) (rfl) (d5)) (cwV 0 hts gL_holds_X5_branches rfl rfl rfl (by decide +kernel) ⟨Nat.le_of_ble_eq_true rfl, Nat.le_of_ble_eq_true rfl⟩) ⟨blU, va_recv hK (vP_perm hP (pmI _)) (ci := 4) (q0 := 0) rfl rfl, preU hP hD (pmI _) hK hE hS hA⟩ rfl rfl hl.1 rfl (lv_room (Nat.le_of_ble_eq_true rfl)) dL_holds_701 ⟨Nat.le_of_ble_eq_true rfl, Nat.le_of_ble_eq_true rfl⟩) hP hD (pmI _) hS hA (fun H locs hP hD hS => ?_)
      have hP : va_P D vwCl (wB cy ad V5) H := vP_perm hP (pmI _).symm
      have hD : va_D A (wB cy ad V5) := vD_perm hD (pmI _).symm
      refine lv_iadd hx hb dL_holds_704 ?_
      refine lv_icmp_ne (tgt := 751) hx hb dL_holds_705 (by decide) (fun c_8 => absurd rfl c_8) (fun c_8 => ?_)
      refine lv_aload_n hx hb dL_holds_708 rfl (lv_at hl 6 rfl) ?_
      refine lv_iconst (v := 1) hx hb dL_holds_709 (by decide) ?_
      refine lv_iconst (v := 1) hx hb dL_holds_710 (by decide) ?_
      refine lv_iconst (v := 0) hx hb dL_holds_711 (by decide) ?_
      refine lv_iconst (v := 0) hx hb dL_holds_712 (by decide) ?_
      refine cl_i (va_runS (As := [.ref (ad 0 0 0), .int (1 : Int32), .int (1 : Int32), .int (0 : Int32), .int (0 : Int32)]) (rest := []) ⟨hx, hb, hml, hown, hts⟩ (cca l hlt D cy ad (B := _) (V := V5) (V' := V5) hB5 (what := (1 : Int32)) (a := (1 : Int32)) (b := (0 : Int32)) (c := (0 : Int32)) (r := ((nI (sN R 26)) + pl)) (d6.trans (by rw [e6])) ((wc_1 V5 (1 : Int32) (0 : Int32) (0 : Int32))) ((n15 (by decide))) H.size) (va_cwS 5 hts gL_holds_L_call rfl rfl rfl (by decide +kernel) ⟨Nat.le_of_ble_eq_true rfl, Nat.le_of_ble_eq_true rfl⟩) ⟨blU, preU hP hD (pmI _) hK hE hS hA⟩ rfl rfl hl.1 rfl (lv_room (Nat.le_of_ble_eq_true rfl)) dL_holds_713 ⟨Nat.le_of_ble_eq_true rfl, Nat.le_of_ble_eq_true rfl⟩) hP hD (pmI _) hS hA (fun H locs hP hD hS => ?_)
      have hP : va_P D vwCl (wB cy ad V5) H := vP_perm hP (pmI _).symm
      have hD : va_D A (wB cy ad V5) := vD_perm hD (pmI _).symm
      refine lv_iload_n hx hb dL_holds_716 rfl (lv_at hl 5 rfl) ?_
      refine lv_iload hx hb dL_holds_717 (lv_at hl 0 rfl) ?_
      refine lv_iadd hx hb dL_holds_719 ?_
      refine lv_icmp_ne (tgt := 751) hx hb dL_holds_720 (by decide) (fun c_9 => absurd rfl c_9) (fun c_9 => ?_)
      refine lv_aload_n hx hb dL_holds_723 rfl (lv_at hl 6 rfl) ?_
      refine lv_bipush (v := 12) hx hb dL_holds_724 (by decide) ?_
      refine lv_iconst (v := 0) hx hb dL_holds_726 (by decide) ?_
      refine lv_iconst (v := 0) hx hb dL_holds_727 (by decide) ?_
      refine lv_iconst (v := 0) hx hb dL_holds_728 (by decide) ?_
      refine cl_i (va_runS (As := [.ref (ad 0 0 0), .int (12 : Int32), .int (0 : Int32), .int (0 : Int32), .int (0 : Int32)]) (rest := []) ⟨hx, hb, hml, hown, hts⟩ (cca l hlt D cy ad (B := _) (V := V5) (V' := Vf) hB5 (what := (12 : Int32)) (a := (0 : Int32)) (b := (0 : Int32)) (c := (0 : Int32)) (r := (r_L_call V5 (12 : Int32) (0 : Int32) (0 : Int32) (0 : Int32))) (rfl) (d8) ((n15 (by decide))) H.size) (va_cwS 5 hts gL_holds_L_call rfl rfl rfl (by decide +kernel) ⟨Nat.le_of_ble_eq_true rfl, Nat.le_of_ble_eq_true rfl⟩) ⟨blU, preU hP hD (pmI _) hK hE hS hA⟩ rfl rfl hl.1 rfl (lv_room (Nat.le_of_ble_eq_true rfl)) dL_holds_729 ⟨Nat.le_of_ble_eq_true rfl, Nat.le_of_ble_eq_true rfl⟩) hP hD (pmI _) hS hA (fun H locs hP hD hS => ?_)
      have hP : va_P D vwCl (wB cy ad Vf) H := vP_perm hP (pmI _).symm
      have hD : va_D A (wB cy ad Vf) := vD_perm hD (pmI _).symm
      refine lv_if_lt (tgt := 751) hx hb dL_holds_732 (by decide) (fun c_10 => absurd c_10 d7) (fun c_10 => ?_)
      refine lv_aload_n hx hb dL_holds_735 rfl (lv_at hl 6 rfl) ?_
      refine lv_iconst (v := 1) hx hb dL_holds_736 (by decide) ?_
      refine lv_iconst (v := 0) hx hb dL_holds_737 (by decide) ?_
      refine lv_iconst (v := 0) hx hb dL_holds_738 (by decide) ?_
      refine lv_iconst (v := 0) hx hb dL_holds_739 (by decide) ?_
      refine cl_i (va_runS (As := [.ref (ad 0 0 0), .int (1 : Int32), .int (0 : Int32), .int (0 : Int32), .int (0 : Int32)]) (rest := []) ⟨hx, hb, hml, hown, hts⟩ (cca l hlt D cy ad (B := _) (V := Vf) (V' := Vf) hBf (what := (1 : Int32)) (a := (0 : Int32)) (b := (0 : Int32)) (c := (0 : Int32)) (r := (nI (sN G 26))) ((fb_a0 Vf 0 0).trans (by rw [t6, e5])) ((wc_1 Vf (0 : Int32) (0 : Int32) (0 : Int32))) ((n15 (by decide))) H.size) (va_cwS 5 hts gL_holds_L_call rfl rfl rfl (by decide +kernel) ⟨Nat.le_of_ble_eq_true rfl, Nat.le_of_ble_eq_true rfl⟩) ⟨blU, preU hP hD (pmI _) hK hE hS hA⟩ rfl rfl hl.1 rfl (lv_room (Nat.le_of_ble_eq_true rfl)) dL_holds_740 ⟨Nat.le_of_ble_eq_true rfl, Nat.le_of_ble_eq_true rfl⟩) hP hD (pmI _) hS hA (fun H locs hP hD hS => ?_)
      have hP : va_P D vwCl (wB cy ad Vf) H := vP_perm hP (pmI _).symm
      have hD : va_D A (wB cy ad Vf) := vD_perm hD (pmI _).symm
      refine lv_iload_n hx hb dL_holds_743 rfl (lv_at hl 4 rfl) ?_
      refine lv_icmp_ne (tgt := 751) hx hb dL_holds_744 (by decide) (fun c_11 => absurd rfl c_11) (fun c_11 => ?_)
      refine lv_iconst (v := 1) hx hb dL_holds_747 (by decide) ?_
      refine lv_goto (tgt := 752) hx hb dL_holds_748 (by decide) ?_
      refine W.widen (k := 1670) (n := 10020) (Nat.le_of_ble_eq_true rfl) (Nat.le_of_ble_eq_true rfl) ?_
      exact hret _ H locs _ ls rfl hP hD hS dL_holds_752
  have tl453 : ∀ (H : Heap) (locs : List Loc), va_P D vwCl (wB cy ad V) H → va_D A (wB cy ad V) → va_S A s.heap H locs → ∀ ls : Array Slot, lv_has ls 11 [(4, .int (1 : Int32)), (2, .int (nI (sN G 26))), (3, .int (nI (sN R 26))), (0, .ref (ad 0 0 0)), (1, .int x)] → W pp l e rL_holds s m ([.ref (ad 0 0 0), .int x] : List Value).toArray below meth c H locs 1587 9522 Q (F0 m 453 ls []) := by
    intro H locs hP hD hS ls hl
    refine lv_iload_n hx hb dL_holds_453 rfl (lv_at hl 4 rfl) ?_
    refine lv_bipush (v := 26) hx hb dL_holds_454 (by decide) ?_
    refine lv_irem hx hb dL_holds_456 (by decide) ?_
    rw [e26]
    refine lv_istore (lv' := [(5, .int (nI p0)), (4, .int (1 : Int32)), (2, .int (nI (sN G 26))), (3, .int (nI (sN R 26))), (0, .ref (ad 0 0 0)), (1, .int x)]) hx hb dL_holds_457 hl (by decide) rfl (fun ls hl => ?_)
    refine lv_aload_n hx hb dL_holds_459 rfl (lv_at hl 4 rfl) ?_
    refine lv_iconst (v := 4) hx hb dL_holds_460 (by decide) ?_
    refine lv_iload hx hb dL_holds_461 (lv_at hl 0 rfl) ?_
    refine lv_iconst (v := 4) hx hb dL_holds_463 (by decide) ?_
    refine lv_iconst (v := 0) hx hb dL_holds_464 (by decide) ?_
    refine cl_i (va_runS (As := [.ref (ad 0 0 0), .int (4 : Int32), .int (nI p0), .int (4 : Int32), .int (0 : Int32)]) (rest := []) ⟨hx, hb, hml, hown, hts⟩ (cca l hlt D cy ad (B := _) (V := V) (V' := V) hB (what := (4 : Int32)) (a := (nI p0)) (b := (4 : Int32)) (c := (0 : Int32)) (r := gv) ((fb_p4 V hp0 0).trans hgv) ((wc_4 V (nI p0) (4 : Int32) (0 : Int32))) ((n15 (by decide))) H.size) (va_cwS 5 hts gL_holds_L_call rfl rfl rfl (by decide +kernel) ⟨Nat.le_of_ble_eq_true rfl, Nat.le_of_ble_eq_true rfl⟩) ⟨blU, preU hP hD (pmI _) hK hE hS hA⟩ rfl rfl hl.1 rfl (lv_room (Nat.le_of_ble_eq_true rfl)) dL_holds_465 ⟨Nat.le_of_ble_eq_true rfl, Nat.le_of_ble_eq_true rfl⟩) hP hD (pmI _) hS hA (fun H locs hP hD hS => ?_)
    have hP : va_P D vwCl (wB cy ad V) H := vP_perm hP (pmI _).symm
    have hD : va_D A (wB cy ad V) := vD_perm hD (pmI _).symm
    refine lv_istore (lv' := [(6, .int gv), (5, .int (nI p0)), (4, .int (1 : Int32)), (2, .int (nI (sN G 26))), (3, .int (nI (sN R 26))), (0, .ref (ad 0 0 0)), (1, .int x)]) hx hb dL_holds_468 hl (by decide) rfl (fun ls hl => ?_)
    refine lv_aload_n hx hb dL_holds_470 rfl (lv_at hl 5 rfl) ?_
    refine lv_bipush (v := 16) hx hb dL_holds_471 (by decide) ?_
    refine lv_iload hx hb dL_holds_473 (lv_at hl 1 rfl) ?_
    refine lv_iconst (v := 0) hx hb dL_holds_475 (by decide) ?_
    refine lv_iconst (v := 0) hx hb dL_holds_476 (by decide) ?_
    refine cl_i (va_runS (As := [.ref (ad 0 0 0), .int (16 : Int32), .int (nI p0), .int (0 : Int32), .int (0 : Int32)]) (rest := []) ⟨hx, hb, hml, hown, hts⟩ (cca l hlt D cy ad (B := _) (V := V) (V' := V1) hB (what := (16 : Int32)) (a := (nI p0)) (b := (0 : Int32)) (c := (0 : Int32)) (r := (nI h)) (hh1) (hV1) ((n15 (by decide))) H.size) (va_cwS 5 hts gL_holds_L_call rfl rfl rfl (by decide +kernel) ⟨Nat.le_of_ble_eq_true rfl, Nat.le_of_ble_eq_true rfl⟩) ⟨blU, preU hP hD (pmI _) hK hE hS hA⟩ rfl rfl hl.1 rfl (lv_room (Nat.le_of_ble_eq_true rfl)) dL_holds_477 ⟨Nat.le_of_ble_eq_true rfl, Nat.le_of_ble_eq_true rfl⟩) hP hD (pmI _) hS hA (fun H locs hP hD hS => ?_)
    have hP : va_P D vwCl (wB cy ad V1) H := vP_perm hP (pmI _).symm
    have hD : va_D A (wB cy ad V1) := vD_perm hD (pmI _).symm
    refine lv_istore (lv' := [(7, .int (nI h)), (6, .int gv), (5, .int (nI p0)), (4, .int (1 : Int32)), (2, .int (nI (sN G 26))), (3, .int (nI (sN R 26))), (0, .ref (ad 0 0 0)), (1, .int x)]) hx hb dL_holds_480 hl (by decide) rfl (fun ls hl => ?_)
    refine lv_iload hx hb dL_holds_482 (lv_at hl 0 rfl) ?_
    refine lv_bipush (v := 6) hx hb dL_holds_484 (by decide) ?_
    by_cases h6 : h < 6
    · have e2 : unN (brN V1 (nI p0) tk h) h = V2 := by rw [← hV2, if_pos h6]
      have b1 := brN_inv hB1 (by omega) (nI p0) tk h (by omega)
      obtain ⟨c1, c2, c3, c4⟩ := brN_st hB1 (by omega) hp0 tk h (by omega)
      have lpu : ∀ (k j cs sl : Nat) (_ : j + k = h) (_ : cs + 3 * k ≤ 1640) (_ : sl + 18 * k ≤ 9840) (H : Heap) (locs : List Loc), va_P D vwCl (wB cy ad (unN (brN V1 (nI p0) tk h) j)) H → va_D A (wB cy ad (unN (brN V1 (nI p0) tk h) j)) → va_S A s.heap H locs → ∀ ls : Array Slot, lv_has ls 11 [(8, .int (nI j)), (4, .int (1 : Int32)), (2, .int (nI (sN G 26))), (3, .int (nI (sN R 26))), (5, .int (nI p0)), (6, .int gv), (7, .int (nI h)), (0, .ref (ad 0 0 0)), (1, .int x)] → W pp l e rL_holds s m ([.ref (ad 0 0 0), .int x] : List Value).toArray below meth c H locs cs sl Q (F0 m 584 ls []) := by
        intro k
        induction k with
        | zero =>
          intro j cs sl hj hc hs H locs hP hD hS ls hl
          have hj9 : j = h := by omega
          subst hj9
          refine lv_iload hx hb dL_holds_584 (lv_at hl 0 rfl) ?_
          refine lv_iload hx hb dL_holds_586 (lv_at hl 6 rfl) ?_
          refine lv_icmp_ge (tgt := 621) hx hb dL_holds_588 (by decide) (fun c_12 => ?_) (fun c_12 => absurd (Int32.le_refl _) c_12)
          rw [e2] at hP hD
          refine W.widen (k := 1640) (n := 9840) (by omega) (by omega) ?_
          exact tl621 H locs hP hD hS ls (lv_sub hl [1, 2, 3, 7, 8] rfl)
        | succ k ih =>
          intro j cs sl hj hc hs H locs hP hD hS ls hl
          have u1 := unN_st (f := goT V1.2.1 (nI p0) tk) c3 c4 c2 j (by omega)
          obtain ⟨kc, kc1, kc2⟩ := un_r (V := (unN (brN V1 (nI p0) tk h) j)) (by rw [u1.2.2.1]; omega) (unN_inv b1 j).ho.2 0 0 0
          refine lv_iload hx hb dL_holds_584 (lv_at hl 0 rfl) ?_
          refine lv_iload hx hb dL_holds_586 (lv_at hl 6 rfl) ?_
          refine lv_icmp_ge (tgt := 621) hx hb dL_holds_588 (by decide) (fun c_13 => absurd c_13 (nI_ge (a := j) (b := h) (by omega) (by omega))) (fun c_13 => ?_)
          refine lv_iload hx hb dL_holds_591 (lv_at hl 1 rfl) ?_
          refine lv_if_eq (tgt := 621) hx hb dL_holds_593 (by decide) (fun c_14 => absurd c_14 (by decide)) (fun c_14 => ?_)
          refine lv_aload_n hx hb dL_holds_596 rfl (lv_at hl 7 rfl) ?_
          refine lv_bipush (v := 12) hx hb dL_holds_597 (by decide) ?_
          refine lv_iconst (v := 0) hx hb dL_holds_599 (by decide) ?_
          refine lv_iconst (v := 0) hx hb dL_holds_600 (by decide) ?_
          refine lv_iconst (v := 0) hx hb dL_holds_601 (by decide) ?_
          refine cl_i (va_runS (As := [.ref (ad 0 0 0), .int (12 : Int32), .int (0 : Int32), .int (0 : Int32), .int (0 : Int32)]) (rest := []) ⟨hx, hb, hml, hown, hts⟩ (cca l hlt D cy ad (B := _) (V := (unN (brN V1 (nI p0) tk h) j)) (V' := (unN (brN V1 (nI p0) tk h) (j + 1))) (unN_inv b1 j) (what := (12 : Int32)) (a := (0 : Int32)) (b := (0 : Int32)) (c := (0 : Int32)) (r := (nI kc)) (kc2) ((wc_12 (unN (brN V1 (nI p0) tk h) j) 0 0 0)) ((n15 (by decide))) H.size) (va_cwS 5 hts gL_holds_L_call rfl rfl rfl (by decide +kernel) ⟨Nat.le_of_ble_eq_true rfl, Nat.le_of_ble_eq_true rfl⟩) ⟨blU, preU hP hD (pmI _) hK hE hS hA⟩ rfl rfl hl.1 rfl (lv_room (Nat.le_of_ble_eq_true rfl)) dL_holds_602 ⟨(show (cs + 3) ≤ 1670 by omega), (show (sl + 18) ≤ 10020 by omega)⟩) hP hD (pmI _) hS hA (fun H locs hP hD hS => ?_)
          have hP : va_P D vwCl (wB cy ad (unN (brN V1 (nI p0) tk h) (j + 1))) H := vP_perm hP (pmI _).symm
          have hD : va_D A (wB cy ad (unN (brN V1 (nI p0) tk h) (j + 1))) := vD_perm hD (pmI _).symm
          refine lv_if_lt (tgt := 612) hx hb dL_holds_605 (by decide) (fun c_15 => absurd c_15 (nI_pos kc1)) (fun c_15 => ?_)
          refine lv_iconst (v := 1) hx hb dL_holds_608 (by decide) ?_
          refine lv_goto (tgt := 613) hx hb dL_holds_609 (by decide) ?_
          refine lv_istore (lv' := [(4, .int (1 : Int32)), (8, .int (nI j)), (2, .int (nI (sN G 26))), (3, .int (nI (sN R 26))), (5, .int (nI p0)), (6, .int gv), (7, .int (nI h)), (0, .ref (ad 0 0 0)), (1, .int x)]) hx hb dL_holds_613 hl (by decide) rfl (fun ls hl => ?_)
          refine lv_iinc (v := (nI (j + 1))) (lv' := [(8, .int (nI (j + 1))), (4, .int (1 : Int32)), (2, .int (nI (sN G 26))), (3, .int (nI (sN R 26))), (5, .int (nI p0)), (6, .int gv), (7, .int (nI h)), (0, .ref (ad 0 0 0)), (1, .int x)]) hx hb dL_holds_615 hl (k := 1) rfl (nI_1 j) (by decide) rfl (fun ls hl => ?_)
          refine lv_goto (tgt := 584) hx hb dL_holds_618 (by decide) ?_
          exact ih (j + 1) (cs + 3) (sl + 18) (by omega) (by omega) (by omega) H locs hP hD hS ls (lv_sub hl [0, 1, 2, 3, 4, 5, 6, 7, 8] rfl)
      have ex555 : ∀ (H : Heap) (locs : List Loc), va_P D vwCl (wB cy ad (brN V1 (nI p0) tk h)) H → va_D A (wB cy ad (brN V1 (nI p0) tk h)) → va_S A s.heap H locs → ∀ ls : Array Slot, lv_has ls 11 [(8, .int (nI h)), (4, .int (1 : Int32)), (2, .int (nI (sN G 26))), (3, .int (nI (sN R 26))), (5, .int (nI p0)), (6, .int gv), (7, .int (nI h)), (0, .ref (ad 0 0 0)), (1, .int x)] → W pp l e rL_holds s m ([.ref (ad 0 0 0), .int x] : List Value).toArray below meth c H locs 1613 9678 Q (F0 m 555 ls []) := by
        intro H locs hP hD hS ls hl
        obtain ⟨gw, hgw⟩ : ∃ gw, r_X3_guessFor (brN V1 (nI p0) tk h).2.1 (nI p0) = gw := ⟨_, rfl⟩
        have hgw2 : ¬ gw = gv := by rw [← hgw, c2, hs1]; exact hh5 (by omega)
        refine lv_iload hx hb dL_holds_555 (lv_at hl 1 rfl) ?_
        refine lv_if_eq (tgt := 578) hx hb dL_holds_557 (by decide) (fun c_16 => absurd c_16 (by decide)) (fun c_16 => ?_)
        refine lv_aload_n hx hb dL_holds_560 rfl (lv_at hl 7 rfl) ?_
        refine lv_iconst (v := 4) hx hb dL_holds_561 (by decide) ?_
        refine lv_iload hx hb dL_holds_562 (lv_at hl 4 rfl) ?_
        refine lv_iconst (v := 4) hx hb dL_holds_564 (by decide) ?_
        refine lv_iconst (v := 0) hx hb dL_holds_565 (by decide) ?_
        refine cl_i (va_runS (As := [.ref (ad 0 0 0), .int (4 : Int32), .int (nI p0), .int (4 : Int32), .int (0 : Int32)]) (rest := []) ⟨hx, hb, hml, hown, hts⟩ (cca l hlt D cy ad (B := _) (V := (brN V1 (nI p0) tk h)) (V' := (brN V1 (nI p0) tk h)) b1 (what := (4 : Int32)) (a := (nI p0)) (b := (4 : Int32)) (c := (0 : Int32)) (r := gw) ((fb_p4 (brN V1 (nI p0) tk h) hp0 0).trans hgw) ((wc_4 (brN V1 (nI p0) tk h) (nI p0) (4 : Int32) (0 : Int32))) ((n15 (by decide))) H.size) (va_cwS 5 hts gL_holds_L_call rfl rfl rfl (by decide +kernel) ⟨Nat.le_of_ble_eq_true rfl, Nat.le_of_ble_eq_true rfl⟩) ⟨blU, preU hP hD (pmI _) hK hE hS hA⟩ rfl rfl hl.1 rfl (lv_room (Nat.le_of_ble_eq_true rfl)) dL_holds_566 ⟨Nat.le_of_ble_eq_true rfl, Nat.le_of_ble_eq_true rfl⟩) hP hD (pmI _) hS hA (fun H locs hP hD hS => ?_)
        have hP : va_P D vwCl (wB cy ad (brN V1 (nI p0) tk h)) H := vP_perm hP (pmI _).symm
        have hD : va_D A (wB cy ad (brN V1 (nI p0) tk h)) := vD_perm hD (pmI _).symm
        refine lv_iload hx hb dL_holds_569 (lv_at hl 5 rfl) ?_
        refine lv_icmp_eq (tgt := 578) hx hb dL_holds_571 (by decide) (fun c_17 => absurd c_17 hgw2) (fun c_17 => ?_)
        refine lv_iconst (v := 1) hx hb dL_holds_574 (by decide) ?_
        refine lv_goto (tgt := 579) hx hb dL_holds_575 (by decide) ?_
        refine lv_istore (lv' := [(4, .int (1 : Int32)), (8, .int (nI h)), (2, .int (nI (sN G 26))), (3, .int (nI (sN R 26))), (5, .int (nI p0)), (6, .int gv), (7, .int (nI h)), (0, .ref (ad 0 0 0)), (1, .int x)]) hx hb dL_holds_579 hl (by decide) rfl (fun ls hl => ?_)
        refine lv_iconst (v := 0) hx hb dL_holds_581 (by decide) ?_
        refine lv_istore (lv' := [(8, .int (0 : Int32)), (4, .int (1 : Int32)), (2, .int (nI (sN G 26))), (3, .int (nI (sN R 26))), (5, .int (nI p0)), (6, .int gv), (7, .int (nI h)), (0, .ref (ad 0 0 0)), (1, .int x)]) hx hb dL_holds_582 hl (by decide) rfl (fun ls hl => ?_)
        exact lpu h 0 1616 9696 (by omega) (by omega) (by omega) H locs hP hD hS ls (lv_sub hl [0, 1, 2, 3, 4, 5, 6, 7, 8] rfl)
      have lpk : ∀ (k i cs sl : Nat) (_ : i + k = h) (_ : cs + 4 * k ≤ 1613) (_ : sl + 24 * k ≤ 9678) (H : Heap) (locs : List Loc), va_P D vwCl (wB cy ad (brN V1 (nI p0) tk i)) H → va_D A (wB cy ad (brN V1 (nI p0) tk i)) → va_S A s.heap H locs → ∀ ls : Array Slot, lv_has ls 11 [(8, .int (nI i)), (4, .int (1 : Int32)), (2, .int (nI (sN G 26))), (3, .int (nI (sN R 26))), (5, .int (nI p0)), (6, .int gv), (7, .int (nI h)), (0, .ref (ad 0 0 0)), (1, .int x)] → W pp l e rL_holds s m ([.ref (ad 0 0 0), .int x] : List Value).toArray below meth c H locs cs sl Q (F0 m 497 ls []) := by
        intro k
        induction k with
        | zero =>
          intro i cs sl hi hc hs H locs hP hD hS ls hl
          have hi9 : i = h := by omega
          rw [hi9] at hP hD hl
          refine lv_iload hx hb dL_holds_497 (lv_at hl 0 rfl) ?_
          refine lv_iload hx hb dL_holds_499 (lv_at hl 6 rfl) ?_
          refine lv_icmp_ge (tgt := 555) hx hb dL_holds_501 (by decide) (fun c_18 => ?_) (fun c_18 => absurd (Int32.le_refl _) c_18)
          refine W.widen (k := 1613) (n := 9678) (by omega) (by omega) ?_
          exact ex555 H locs hP hD hS ls (lv_sub hl [0, 1, 2, 3, 4, 5, 6, 7, 8] rfl)
        | succ k ih =>
          intro i cs sl hi hc hs H locs hP hD hS ls hl
          have bi := brN_inv hB1 (by omega) (nI p0) tk i (by omega)
          have gi : r_X3_guessFor (brN V1 (nI p0) tk i).2.1 (nI p0) = gv := by rw [(brN_st hB1 (by omega) hp0 tk i (by omega)).2.1, hs1]; exact hh4 i (by omega)
          refine lv_iload hx hb dL_holds_497 (lv_at hl 0 rfl) ?_
          refine lv_iload hx hb dL_holds_499 (lv_at hl 6 rfl) ?_
          refine lv_icmp_ge (tgt := 555) hx hb dL_holds_501 (by decide) (fun c_19 => absurd c_19 (nI_ge (a := i) (b := h) (by omega) (by omega))) (fun c_19 => ?_)
          refine lv_iload hx hb dL_holds_504 (lv_at hl 1 rfl) ?_
          refine lv_if_eq (tgt := 555) hx hb dL_holds_506 (by decide) (fun c_20 => absurd c_20 (by decide)) (fun c_20 => ?_)
          refine lv_aload_n hx hb dL_holds_509 rfl (lv_at hl 7 rfl) ?_
          refine lv_iconst (v := 4) hx hb dL_holds_510 (by decide) ?_
          refine lv_iload hx hb dL_holds_511 (lv_at hl 4 rfl) ?_
          refine lv_iconst (v := 4) hx hb dL_holds_513 (by decide) ?_
          refine lv_iconst (v := 0) hx hb dL_holds_514 (by decide) ?_
          refine cl_i (va_runS (As := [.ref (ad 0 0 0), .int (4 : Int32), .int (nI p0), .int (4 : Int32), .int (0 : Int32)]) (rest := []) ⟨hx, hb, hml, hown, hts⟩ (cca l hlt D cy ad (B := _) (V := (brN V1 (nI p0) tk i)) (V' := (brN V1 (nI p0) tk i)) bi (what := (4 : Int32)) (a := (nI p0)) (b := (4 : Int32)) (c := (0 : Int32)) (r := gv) ((fb_p4 (brN V1 (nI p0) tk i) hp0 0).trans gi) ((wc_4 (brN V1 (nI p0) tk i) (nI p0) (4 : Int32) (0 : Int32))) ((n15 (by decide))) H.size) (va_cwS 5 hts gL_holds_L_call rfl rfl rfl (by decide +kernel) ⟨Nat.le_of_ble_eq_true rfl, Nat.le_of_ble_eq_true rfl⟩) ⟨blU, preU hP hD (pmI _) hK hE hS hA⟩ rfl rfl hl.1 rfl (lv_room (Nat.le_of_ble_eq_true rfl)) dL_holds_515 ⟨(show (cs + 3) ≤ 1670 by omega), (show (sl + 18) ≤ 10020 by omega)⟩) hP hD (pmI _) hS hA (fun H locs hP hD hS => ?_)
          have hP : va_P D vwCl (wB cy ad (brN V1 (nI p0) tk i)) H := vP_perm hP (pmI _).symm
          have hD : va_D A (wB cy ad (brN V1 (nI p0) tk i)) := vD_perm hD (pmI _).symm
          refine lv_iload hx hb dL_holds_518 (lv_at hl 5 rfl) ?_
          refine lv_icmp_ne (tgt := 546) hx hb dL_holds_520 (by decide) (fun c_21 => absurd rfl c_21) (fun c_21 => ?_)
          refine lv_aload_n hx hb dL_holds_523 rfl (lv_at hl 7 rfl) ?_
          refine lv_iload hx hb dL_holds_524 (lv_at hl 4 rfl) ?_
          refine lv_iload hx hb dL_holds_526 (lv_at hl 5 rfl) ?_
          have jk : ∀ (H : Heap) (locs : List Loc), va_P D vwCl (wB cy ad (brN V1 (nI p0) tk i)) H → va_D A (wB cy ad (brN V1 (nI p0) tk i)) → va_S A s.heap H locs → ∀ ls : Array Slot, lv_has ls 11 [(8, .int (nI i)), (4, .int (1 : Int32)), (2, .int (nI (sN G 26))), (3, .int (nI (sN R 26))), (5, .int (nI p0)), (6, .int gv), (7, .int (nI h)), (0, .ref (ad 0 0 0)), (1, .int x)] → W pp l e rL_holds s m ([.ref (ad 0 0 0), .int x] : List Value).toArray below meth c H locs (cs + 3) (sl + 18) Q (F0 m 536 ls [.int tk, .int (nI p0), .ref (ad 0 0 0)]) := by
            intro H locs hP hD hS ls hl
            refine cl_i (vx_runSW (As := [.ref (ad 0 0 0), .int (nI p0), .int tk]) (rest := []) ⟨hx, hb, hml, hown, hts⟩ (ccg l hlt D cy ad (B := _) (V := (brN V1 (nI p0) tk i)) (V' := (brN V1 (nI p0) tk (i + 1))) bi (nI p0) tk (r := (0 : Int32)) (go_wrong hp0 gi htk) (rfl) H.size) (vx_cwSW 3 hts gL_holds_L_tryGo rfl rfl rfl (by decide +kernel) ⟨Nat.le_of_ble_eq_true rfl, Nat.le_of_ble_eq_true rfl⟩) ⟨blU, preU hP hD (pmI _) hK hE hS hA⟩ rfl rfl hl.1 rfl (lv_room (Nat.le_of_ble_eq_true rfl)) dL_holds_536 ⟨(show (cs + 4) ≤ 1670 by omega), (show (sl + 24) ≤ 10020 by omega)⟩) hP hD (pmI _) hS hA (fun H locs hP hD hS => ?_)
            have hP : va_P D vwCl (wB cy ad (brN V1 (nI p0) tk (i + 1))) H := vP_perm hP (pmI _).symm
            have hD : va_D A (wB cy ad (brN V1 (nI p0) tk (i + 1))) := vD_perm hD (pmI _).symm
            refine lv_if_ne (tgt := 546) hx hb dL_holds_539 (by decide) (fun c_22 => absurd (by decide) c_22) (fun c_22 => ?_)
            refine lv_iconst (v := 1) hx hb dL_holds_542 (by decide) ?_
            refine lv_goto (tgt := 547) hx hb dL_holds_543 (by decide) ?_
            refine lv_istore (lv' := [(4, .int (1 : Int32)), (8, .int (nI i)), (2, .int (nI (sN G 26))), (3, .int (nI (sN R 26))), (5, .int (nI p0)), (6, .int gv), (7, .int (nI h)), (0, .ref (ad 0 0 0)), (1, .int x)]) hx hb dL_holds_547 hl (by decide) rfl (fun ls hl => ?_)
            refine lv_iinc (v := (nI (i + 1))) (lv' := [(8, .int (nI (i + 1))), (4, .int (1 : Int32)), (2, .int (nI (sN G 26))), (3, .int (nI (sN R 26))), (5, .int (nI p0)), (6, .int gv), (7, .int (nI h)), (0, .ref (ad 0 0 0)), (1, .int x)]) hx hb dL_holds_549 hl (k := 1) rfl (nI_1 i) (by decide) rfl (fun ls hl => ?_)
            refine lv_goto (tgt := 497) hx hb dL_holds_552 (by decide) ?_
            exact ih (i + 1) (cs + 4) (sl + 24) (by omega) (by omega) (by omega) H locs hP hD hS ls (lv_sub hl [0, 1, 2, 3, 4, 5, 6, 7, 8] rfl)
          refine lv_if_ne (tgt := 535) hx hb dL_holds_528 (by decide) (fun c8 => ?_) (fun c8 => ?_)
          · refine lv_iconst (v := 0) hx hb dL_holds_535 (by decide) ?_
            have e3 : tk = (0 : Int32) := by rw [htk, if_neg c8]
            have q3 := jk H locs hP hD hS ls (lv_sub hl [0, 1, 2, 3, 4, 5, 6, 7, 8] rfl)
            rw [e3] at q3
            exact q3
          · refine lv_iconst (v := 1) hx hb dL_holds_531 (by decide) ?_
            refine lv_goto (tgt := 536) hx hb dL_holds_532 (by decide) ?_
            have e3 : tk = (1 : Int32) := by rw [htk, if_pos c8]
            have q3 := jk H locs hP hD hS ls (lv_sub hl [0, 1, 2, 3, 4, 5, 6, 7, 8] rfl)
            rw [e3] at q3
            exact q3
      refine lv_icmp_ge (tgt := 621) hx hb dL_holds_486 (by decide) (fun c_23 => absurd c_23 (nI_ge (a := h) (b := 6) h6 (by decide))) (fun c_23 => ?_)
      refine lv_iload hx hb dL_holds_489 (lv_at hl 3 rfl) ?_
      refine lv_if_eq (tgt := 621) hx hb dL_holds_491 (by decide) (fun c_24 => absurd c_24 (by decide)) (fun c_24 => ?_)
      refine lv_iconst (v := 0) hx hb dL_holds_494 (by decide) ?_
      refine lv_istore (lv' := [(8, .int (0 : Int32)), (7, .int (nI h)), (6, .int gv), (5, .int (nI p0)), (4, .int (1 : Int32)), (2, .int (nI (sN G 26))), (3, .int (nI (sN R 26))), (0, .ref (ad 0 0 0)), (1, .int x)]) hx hb dL_holds_495 hl (by decide) rfl (fun ls hl => ?_)
      exact lpk h 0 1593 9558 (by omega) (by omega) (by omega) H locs hP hD hS ls (lv_sub hl [0, 4, 5, 6, 3, 2, 1, 7, 8] rfl)
    · have e2 : V1 = V2 := by rw [← hV2, if_neg h6]
      refine lv_icmp_ge (tgt := 621) hx hb dL_holds_486 (by decide) (fun c_25 => ?_) (fun c_25 => absurd (show (6 : Int32) ≤ nI h from nI_le (a := 6) (by omega) (by omega)) c_25)
      rw [e2] at hP hD
      refine W.widen (k := 1640) (n := 9840) (by omega) (by omega) ?_
      exact tl621 H locs hP hD hS ls (lv_sub hl [3, 4, 5, 6, 7] rfl)
  have lpd : ∀ (k d cs sl : Nat) (_ : d + k = 2) (_ : cs + 588 * k ≤ 1587) (_ : sl + 3528 * k ≤ 9522) (H : Heap) (locs : List Loc), va_P D vwCl (wB cy ad V) H → va_D A (wB cy ad V) → va_S A s.heap H locs → ∀ ls : Array Slot, lv_has ls 11 [(5, .int (nI d)), (4, .int (1 : Int32)), (2, .int (nI (sN G 26))), (3, .int (nI (sN R 26))), (0, .ref (ad 0 0 0)), (1, .int x)] → W pp l e rL_holds s m ([.ref (ad 0 0 0), .int x] : List Value).toArray below meth c H locs cs sl Q (F0 m 284 ls []) := by
    intro k
    induction k with
    | zero =>
      intro d cs sl hd hc hs H locs hP hD hS ls hl
      have hd9 : d = 2 := by omega
      subst hd9
      refine lv_iload hx hb dL_holds_284 (lv_at hl 0 rfl) ?_
      refine lv_iconst (v := 2) hx hb dL_holds_286 (by decide) ?_
      refine lv_icmp_ge (tgt := 453) hx hb dL_holds_287 (by decide) (fun c_26 => ?_) (fun c_26 => absurd (show (2 : Int32) ≤ nI 2 from Int32.le_refl _) c_26)
      refine W.widen (k := 1587) (n := 9522) (by omega) (by omega) ?_
      exact tl453 H locs hP hD hS ls (lv_sub hl [1, 2, 3, 4, 5] rfl)
    | succ k ih =>
      intro d cs sl hd hc hs H locs hP hD hS ls hl
      obtain ⟨g1, g2, g3, g4, g5, g6⟩ := hdk d (by omega)
      have exi : ∀ (H : Heap) (locs : List Loc), va_P D vwCl (wB cy ad V) H → va_D A (wB cy ad V) → va_S A s.heap H locs → ∀ ls : Array Slot, lv_has ls 11 [(9, .int (nI (2 ^ z))), (6, .int (nI (sN (UU d) (2 ^ z)))), (7, .int (nI (sN (FF d) (2 ^ z)))), (8, .int (nI (cN (UU d) (2 ^ z)))), (5, .int (nI d)), (4, .int (1 : Int32)), (2, .int (nI (sN G 26))), (3, .int (nI (sN R 26))), (0, .ref (ad 0 0 0)), (1, .int x)] → W pp l e rL_holds s m ([.ref (ad 0 0 0), .int x] : List Value).toArray below meth c H locs (cs + 579) (sl + 3474) Q (F0 m 378 ls []) := by
        intro H locs hP hD hS ls hl
        refine lv_iload hx hb dL_holds_378 (lv_at hl 1 rfl) ?_
        refine lv_iload_n hx hb dL_holds_380 rfl (lv_at hl 6 rfl) ?_
        refine lv_icmp_ne (tgt := 444) hx hb dL_holds_381 (by decide) (fun c_27 => absurd (by rw [g4, k2]) c_27) (fun c_27 => ?_)
        refine lv_iload hx hb dL_holds_384 (lv_at hl 2 rfl) ?_
        refine lv_aload_n hx hb dL_holds_386 rfl (lv_at hl 8 rfl) ?_
        refine lv_iconst (v := 2) hx hb dL_holds_387 (by decide) ?_
        refine lv_iload hx hb dL_holds_388 (lv_at hl 4 rfl) ?_
        refine lv_iconst (v := 3) hx hb dL_holds_390 (by decide) ?_
        refine lv_iconst (v := 0) hx hb dL_holds_391 (by decide) ?_
        refine cl_i (va_runS (As := [.ref (ad 0 0 0), .int (2 : Int32), .int (nI d), .int (3 : Int32), .int (0 : Int32)]) (rest := [.int (nI (sN (FF d) (2 ^ z)))]) ⟨hx, hb, hml, hown, hts⟩ (cca l hlt D cy ad (B := _) (V := V) (V' := V) hB (what := (2 : Int32)) (a := (nI d)) (b := (3 : Int32)) (c := (0 : Int32)) (r := (nI (sN (FF d) (2 ^ z)))) (g2) ((wc_2 V (nI d) (3 : Int32) (0 : Int32))) ((n15 (by decide))) H.size) (va_cwS 5 hts gL_holds_L_call rfl rfl rfl (by decide +kernel) ⟨Nat.le_of_ble_eq_true rfl, Nat.le_of_ble_eq_true rfl⟩) ⟨blU, preU hP hD (pmI _) hK hE hS hA⟩ rfl rfl hl.1 rfl (lv_room (Nat.le_of_ble_eq_true rfl)) dL_holds_392 ⟨(show (cs + 582) ≤ 1670 by omega), (show (sl + 3492) ≤ 10020 by omega)⟩) hP hD (pmI _) hS hA (fun H locs hP hD hS => ?_)
        have hP : va_P D vwCl (wB cy ad V) H := vP_perm hP (pmI _).symm
        have hD : va_D A (wB cy ad V) := vD_perm hD (pmI _).symm
        refine lv_icmp_ne (tgt := 444) hx hb dL_holds_395 (by decide) (fun c_28 => absurd rfl c_28) (fun c_28 => ?_)
        refine lv_iload hx hb dL_holds_398 (lv_at hl 3 rfl) ?_
        refine lv_aload_n hx hb dL_holds_400 rfl (lv_at hl 8 rfl) ?_
        refine lv_iconst (v := 2) hx hb dL_holds_401 (by decide) ?_
        refine lv_iload hx hb dL_holds_402 (lv_at hl 4 rfl) ?_
        refine lv_iconst (v := 4) hx hb dL_holds_404 (by decide) ?_
        refine lv_iconst (v := 0) hx hb dL_holds_405 (by decide) ?_
        refine cl_i (va_runS (As := [.ref (ad 0 0 0), .int (2 : Int32), .int (nI d), .int (4 : Int32), .int (0 : Int32)]) (rest := [.int (nI (cN (UU d) (2 ^ z)))]) ⟨hx, hb, hml, hown, hts⟩ (cca l hlt D cy ad (B := _) (V := V) (V' := V) hB (what := (2 : Int32)) (a := (nI d)) (b := (4 : Int32)) (c := (0 : Int32)) (r := (nI (cN (UU d) (2 ^ z)))) (g3) ((wc_2 V (nI d) (4 : Int32) (0 : Int32))) ((n15 (by decide))) H.size) (va_cwS 5 hts gL_holds_L_call rfl rfl rfl (by decide +kernel) ⟨Nat.le_of_ble_eq_true rfl, Nat.le_of_ble_eq_true rfl⟩) ⟨blU, preU hP hD (pmI _) hK hE hS hA⟩ rfl rfl hl.1 rfl (lv_room (Nat.le_of_ble_eq_true rfl)) dL_holds_406 ⟨(show (cs + 585) ≤ 1670 by omega), (show (sl + 3510) ≤ 10020 by omega)⟩) hP hD (pmI _) hS hA (fun H locs hP hD hS => ?_)
        have hP : va_P D vwCl (wB cy ad V) H := vP_perm hP (pmI _).symm
        have hD : va_D A (wB cy ad V) := vD_perm hD (pmI _).symm
        refine lv_icmp_ne (tgt := 444) hx hb dL_holds_409 (by decide) (fun c_29 => absurd rfl c_29) (fun c_29 => ?_)
        refine lv_aload_n hx hb dL_holds_412 rfl (lv_at hl 8 rfl) ?_
        refine lv_iconst (v := 1) hx hb dL_holds_413 (by decide) ?_
        refine lv_iconst (v := 3) hx hb dL_holds_414 (by decide) ?_
        refine lv_iload hx hb dL_holds_415 (lv_at hl 4 rfl) ?_
        refine lv_iadd hx hb dL_holds_417 ?_
        refine lv_iconst (v := 0) hx hb dL_holds_418 (by decide) ?_
        refine lv_iconst (v := 0) hx hb dL_holds_419 (by decide) ?_
        refine cl_i (va_runS (As := [.ref (ad 0 0 0), .int (1 : Int32), .int ((3 : Int32) + (nI d)), .int (0 : Int32), .int (0 : Int32)]) (rest := []) ⟨hx, hb, hml, hown, hts⟩ (cca l hlt D cy ad (B := _) (V := V) (V' := V) hB (what := (1 : Int32)) (a := ((3 : Int32) + (nI d))) (b := (0 : Int32)) (c := (0 : Int32)) (r := (nI (CC d))) (g5) ((wc_1 V ((3 : Int32) + (nI d)) (0 : Int32) (0 : Int32))) ((n15 (by decide))) H.size) (va_cwS 5 hts gL_holds_L_call rfl rfl rfl (by decide +kernel) ⟨Nat.le_of_ble_eq_true rfl, Nat.le_of_ble_eq_true rfl⟩) ⟨blU, preU hP hD (pmI _) hK hE hS hA⟩ rfl rfl hl.1 rfl (lv_room (Nat.le_of_ble_eq_true rfl)) dL_holds_420 ⟨(show (cs + 588) ≤ 1670 by omega), (show (sl + 3528) ≤ 10020 by omega)⟩) hP hD (pmI _) hS hA (fun H locs hP hD hS => ?_)
        have hP : va_P D vwCl (wB cy ad V) H := vP_perm hP (pmI _).symm
        have hD : va_D A (wB cy ad V) := vD_perm hD (pmI _).symm
        refine lv_iload_n hx hb dL_holds_423 rfl (lv_at hl 6 rfl) ?_
        refine lv_iload hx hb dL_holds_424 (lv_at hl 3 rfl) ?_
        have jd : ∀ (H : Heap) (locs : List Loc), va_P D vwCl (wB cy ad V) H → va_D A (wB cy ad V) → va_S A s.heap H locs → ∀ ls : Array Slot, lv_has ls 11 [(9, .int (nI (2 ^ z))), (6, .int (nI (sN (UU d) (2 ^ z)))), (7, .int (nI (sN (FF d) (2 ^ z)))), (8, .int (nI (cN (UU d) (2 ^ z)))), (5, .int (nI d)), (4, .int (1 : Int32)), (2, .int (nI (sN G 26))), (3, .int (nI (sN R 26))), (0, .ref (ad 0 0 0)), (1, .int x)] → W pp l e rL_holds s m ([.ref (ad 0 0 0), .int x] : List Value).toArray below meth c H locs (cs + 588) (sl + 3528) Q (F0 m 440 ls []) := by
          intro H locs hP hD hS ls hl
          refine lv_iconst (v := 1) hx hb dL_holds_440 (by decide) ?_
          refine lv_goto (tgt := 445) hx hb dL_holds_441 (by decide) ?_
          refine lv_istore (lv' := [(4, .int (1 : Int32)), (9, .int (nI (2 ^ z))), (6, .int (nI (sN (UU d) (2 ^ z)))), (7, .int (nI (sN (FF d) (2 ^ z)))), (8, .int (nI (cN (UU d) (2 ^ z)))), (5, .int (nI d)), (2, .int (nI (sN G 26))), (3, .int (nI (sN R 26))), (0, .ref (ad 0 0 0)), (1, .int x)]) hx hb dL_holds_445 hl (by decide) rfl (fun ls hl => ?_)
          refine lv_iinc (v := (nI (d + 1))) (lv' := [(5, .int (nI (d + 1))), (4, .int (1 : Int32)), (9, .int (nI (2 ^ z))), (6, .int (nI (sN (UU d) (2 ^ z)))), (7, .int (nI (sN (FF d) (2 ^ z)))), (8, .int (nI (cN (UU d) (2 ^ z)))), (2, .int (nI (sN G 26))), (3, .int (nI (sN R 26))), (0, .ref (ad 0 0 0)), (1, .int x)]) hx hb dL_holds_447 hl (k := 5) rfl (nI_1 d) (by decide) rfl (fun ls hl => ?_)
          refine lv_goto (tgt := 284) hx hb dL_holds_450 (by decide) ?_
          exact ih (d + 1) (cs + 588) (sl + 3528) (by omega) (by omega) (by omega) H locs hP hD hS ls (lv_sub hl [0, 1, 6, 7, 8, 9] rfl)
        by_cases hle : sN G 26 ≤ cN (UU d) (2 ^ z)
        · refine lv_icmp_le (tgt := 436) hx hb dL_holds_426 (by decide) (fun c_30 => ?_) (fun c_30 => absurd (nI_le hle (by omega)) c_30)
          refine lv_iconst (v := 0) hx hb dL_holds_436 (by decide) ?_
          refine lv_icmp_gt (tgt := 444) hx hb dL_holds_437 (by decide) (fun c_31 => absurd c_31 (by rw [show CC d = 0 by omega]; decide)) (fun c_31 => ?_)
          exact jd H locs hP hD hS ls (lv_sub hl [0, 1, 2, 3, 4, 5, 6, 7, 8, 9] rfl)
        · refine lv_icmp_le (tgt := 436) hx hb dL_holds_426 (by decide) (fun c_32 => absurd c_32 (nI_ge (by omega) (by omega))) (fun c_32 => ?_)
          refine lv_iload_n hx hb dL_holds_429 rfl (lv_at hl 6 rfl) ?_
          refine lv_iload hx hb dL_holds_430 (lv_at hl 3 rfl) ?_
          refine lv_isub hx hb dL_holds_432 ?_
          refine lv_goto (tgt := 437) hx hb dL_holds_433 (by decide) ?_
          refine lv_icmp_gt (tgt := 444) hx hb dL_holds_437 (by decide) (fun c_33 => absurd c_33 (by rw [pk_sub (by omega)]; exact nI_nlt (by omega) (by omega))) (fun c_33 => ?_)
          exact jd H locs hP hD hS ls (lv_sub hl [0, 1, 2, 3, 4, 5, 6, 7, 8, 9] rfl)
      have lpi : ∀ (k i c2 s2 : Nat) (_ : i + k = 2 ^ z) (_ : c2 + 9 * k + 3 ≤ cs + 579) (_ : s2 + 54 * k + 18 ≤ sl + 3474) (H : Heap) (locs : List Loc), va_P D vwCl (wB cy ad V) H → va_D A (wB cy ad V) → va_S A s.heap H locs → ∀ ls : Array Slot, lv_has ls 11 [(9, .int (nI i)), (6, .int (nI (sN (UU d) i))), (7, .int (nI (sN (FF d) i))), (8, .int (nI (cN (UU d) i))), (5, .int (nI d)), (4, .int (1 : Int32)), (2, .int (nI (sN G 26))), (3, .int (nI (sN R 26))), (0, .ref (ad 0 0 0)), (1, .int x)] → W pp l e rL_holds s m ([.ref (ad 0 0 0), .int x] : List Value).toArray below meth c H locs c2 s2 Q (F0 m 307 ls []) := by
        intro k
        induction k with
        | zero =>
          intro i c2 s2 hi hc2 hs2 H locs hP hD hS ls hl
          have hi9 : i = 2 ^ z := by omega
          rw [hi9] at hl
          refine lv_iload hx hb dL_holds_307 (lv_at hl 0 rfl) ?_
          refine lv_iconst (v := 1) hx hb dL_holds_309 (by decide) ?_
          refine lv_aload_n hx hb dL_holds_310 rfl (lv_at hl 8 rfl) ?_
          refine lv_iconst (v := 1) hx hb dL_holds_311 (by decide) ?_
          refine lv_bipush (v := 7) hx hb dL_holds_312 (by decide) ?_
          refine lv_iconst (v := 0) hx hb dL_holds_314 (by decide) ?_
          refine lv_iconst (v := 0) hx hb dL_holds_315 (by decide) ?_
          refine cl_i (va_runS (As := [.ref (ad 0 0 0), .int (1 : Int32), .int (7 : Int32), .int (0 : Int32), .int (0 : Int32)]) (rest := [.int (1 : Int32), .int (nI (2 ^ z))]) ⟨hx, hb, hml, hown, hts⟩ (cca l hlt D cy ad (B := _) (V := V) (V' := V) hB (what := (1 : Int32)) (a := (7 : Int32)) (b := (0 : Int32)) (c := (0 : Int32)) (r := (nI z)) ((fa_i7 V 0 0).1.trans z3) ((wc_1 V (7 : Int32) (0 : Int32) (0 : Int32))) ((n15 (by decide))) H.size) (va_cwS 5 hts gL_holds_L_call rfl rfl rfl (by decide +kernel) ⟨Nat.le_of_ble_eq_true rfl, Nat.le_of_ble_eq_true rfl⟩) ⟨blU, preU hP hD (pmI _) hK hE hS hA⟩ rfl rfl hl.1 rfl (lv_room (Nat.le_of_ble_eq_true rfl)) dL_holds_316 ⟨(show (c2 + 3) ≤ 1670 by omega), (show (s2 + 18) ≤ 10020 by omega)⟩) hP hD (pmI _) hS hA (fun H locs hP hD hS => ?_)
          have hP : va_P D vwCl (wB cy ad V) H := vP_perm hP (pmI _).symm
          have hD : va_D A (wB cy ad V) := vD_perm hD (pmI _).symm
          refine lv_ishl hx hb dL_holds_319 ?_
          rw [shl_z z1 z2]
          refine lv_icmp_ge (tgt := 378) hx hb dL_holds_320 (by decide) (fun c_34 => ?_) (fun c_34 => absurd (Int32.le_refl _) c_34)
          refine W.widen (k := (cs + 579)) (n := (sl + 3474)) (by omega) (by omega) ?_
          exact exi H locs hP hD hS ls (lv_sub hl [0, 1, 2, 3, 4, 5, 6, 7, 8, 9] rfl)
        | succ k ih2 =>
          intro i c2 s2 hi hc2 hs2 H locs hP hD hS ls hl
          obtain ⟨f1, f2, f3⟩ := g1 i (by omega)
          obtain ⟨ci, hci⟩ : ∃ ci : Nat, (if UU d i = 0 then 0 else 1) = ci := ⟨_, rfl⟩
          have hcN : cN (UU d) i + ci = cN (UU d) (i + 1) := by rw [← hci]; rfl
          refine lv_iload hx hb dL_holds_307 (lv_at hl 0 rfl) ?_
          refine lv_iconst (v := 1) hx hb dL_holds_309 (by decide) ?_
          refine lv_aload_n hx hb dL_holds_310 rfl (lv_at hl 8 rfl) ?_
          refine lv_iconst (v := 1) hx hb dL_holds_311 (by decide) ?_
          refine lv_bipush (v := 7) hx hb dL_holds_312 (by decide) ?_
          refine lv_iconst (v := 0) hx hb dL_holds_314 (by decide) ?_
          refine lv_iconst (v := 0) hx hb dL_holds_315 (by decide) ?_
          refine cl_i (va_runS (As := [.ref (ad 0 0 0), .int (1 : Int32), .int (7 : Int32), .int (0 : Int32), .int (0 : Int32)]) (rest := [.int (1 : Int32), .int (nI i)]) ⟨hx, hb, hml, hown, hts⟩ (cca l hlt D cy ad (B := _) (V := V) (V' := V) hB (what := (1 : Int32)) (a := (7 : Int32)) (b := (0 : Int32)) (c := (0 : Int32)) (r := (nI z)) ((fa_i7 V 0 0).1.trans z3) ((wc_1 V (7 : Int32) (0 : Int32) (0 : Int32))) ((n15 (by decide))) H.size) (va_cwS 5 hts gL_holds_L_call rfl rfl rfl (by decide +kernel) ⟨Nat.le_of_ble_eq_true rfl, Nat.le_of_ble_eq_true rfl⟩) ⟨blU, preU hP hD (pmI _) hK hE hS hA⟩ rfl rfl hl.1 rfl (lv_room (Nat.le_of_ble_eq_true rfl)) dL_holds_316 ⟨(show (c2 + 3) ≤ 1670 by omega), (show (s2 + 18) ≤ 10020 by omega)⟩) hP hD (pmI _) hS hA (fun H locs hP hD hS => ?_)
          have hP : va_P D vwCl (wB cy ad V) H := vP_perm hP (pmI _).symm
          have hD : va_D A (wB cy ad V) := vD_perm hD (pmI _).symm
          refine lv_ishl hx hb dL_holds_319 ?_
          rw [shl_z z1 z2]
          refine lv_icmp_ge (tgt := 378) hx hb dL_holds_320 (by decide) (fun c_35 => absurd c_35 (nI_ge (a := i) (b := 2 ^ z) (by omega) (by omega))) (fun c_35 => ?_)
          refine lv_aload_n hx hb dL_holds_323 rfl (lv_at hl 8 rfl) ?_
          refine lv_iconst (v := 3) hx hb dL_holds_324 (by decide) ?_
          refine lv_iload hx hb dL_holds_325 (lv_at hl 4 rfl) ?_
          refine lv_iload hx hb dL_holds_327 (lv_at hl 0 rfl) ?_
          refine lv_iconst (v := 2) hx hb dL_holds_329 (by decide) ?_
          refine cl_i (va_runS (As := [.ref (ad 0 0 0), .int (3 : Int32), .int (nI d), .int (nI i), .int (2 : Int32)]) (rest := []) ⟨hx, hb, hml, hown, hts⟩ (cca l hlt D cy ad (B := _) (V := V) (V' := V) hB (what := (3 : Int32)) (a := (nI d)) (b := (nI i)) (c := (2 : Int32)) (r := (nI (UU d i))) (f1) ((wc_3 V (nI d) (nI i) (2 : Int32))) ((n15 (by decide))) H.size) (va_cwS 5 hts gL_holds_L_call rfl rfl rfl (by decide +kernel) ⟨Nat.le_of_ble_eq_true rfl, Nat.le_of_ble_eq_true rfl⟩) ⟨blU, preU hP hD (pmI _) hK hE hS hA⟩ rfl rfl hl.1 rfl (lv_room (Nat.le_of_ble_eq_true rfl)) dL_holds_330 ⟨(show (c2 + 6) ≤ 1670 by omega), (show (s2 + 36) ≤ 10020 by omega)⟩) hP hD (pmI _) hS hA (fun H locs hP hD hS => ?_)
          have hP : va_P D vwCl (wB cy ad V) H := vP_perm hP (pmI _).symm
          have hD : va_D A (wB cy ad V) := vD_perm hD (pmI _).symm
          refine lv_istore (lv' := [(10, .int (nI (UU d i))), (9, .int (nI i)), (6, .int (nI (sN (UU d) i))), (7, .int (nI (sN (FF d) i))), (8, .int (nI (cN (UU d) i))), (5, .int (nI d)), (4, .int (1 : Int32)), (2, .int (nI (sN G 26))), (3, .int (nI (sN R 26))), (0, .ref (ad 0 0 0)), (1, .int x)]) hx hb dL_holds_333 hl (by decide) rfl (fun ls hl => ?_)
          refine lv_iload hx hb dL_holds_335 (lv_at hl 2 rfl) ?_
          refine lv_iload hx hb dL_holds_337 (lv_at hl 0 rfl) ?_
          refine lv_iadd hx hb dL_holds_339 ?_
          rw [nI_add (sN (UU d) i) (UU d i)]
          refine lv_istore (lv' := [(6, .int (nI (sN (UU d) i + UU d i))), (10, .int (nI (UU d i))), (9, .int (nI i)), (7, .int (nI (sN (FF d) i))), (8, .int (nI (cN (UU d) i))), (5, .int (nI d)), (4, .int (1 : Int32)), (2, .int (nI (sN G 26))), (3, .int (nI (sN R 26))), (0, .ref (ad 0 0 0)), (1, .int x)]) hx hb dL_holds_340 hl (by decide) rfl (fun ls hl => ?_)
          refine lv_iload hx hb dL_holds_342 (lv_at hl 4 rfl) ?_
          refine lv_iload hx hb dL_holds_344 (lv_at hl 1 rfl) ?_
          have jn : ∀ (H : Heap) (locs : List Loc), va_P D vwCl (wB cy ad V) H → va_D A (wB cy ad V) → va_S A s.heap H locs → ∀ ls : Array Slot, lv_has ls 11 [(6, .int (nI (sN (UU d) i + UU d i))), (10, .int (nI (UU d i))), (9, .int (nI i)), (7, .int (nI (sN (FF d) i))), (8, .int (nI (cN (UU d) i))), (5, .int (nI d)), (4, .int (1 : Int32)), (2, .int (nI (sN G 26))), (3, .int (nI (sN R 26))), (0, .ref (ad 0 0 0)), (1, .int x)] → W pp l e rL_holds s m ([.ref (ad 0 0 0), .int x] : List Value).toArray below meth c H locs (c2 + 6) (s2 + 36) Q (F0 m 354 ls [.int (nI ci), .int (nI (cN (UU d) i))]) := by
            intro H locs hP hD hS ls hl
            refine lv_iadd hx hb dL_holds_354 ?_
            rw [nI_add (cN (UU d) i) ci, hcN]
            refine lv_istore (lv' := [(8, .int (nI (cN (UU d) (i + 1)))), (6, .int (nI (sN (UU d) i + UU d i))), (10, .int (nI (UU d i))), (9, .int (nI i)), (7, .int (nI (sN (FF d) i))), (5, .int (nI d)), (4, .int (1 : Int32)), (2, .int (nI (sN G 26))), (3, .int (nI (sN R 26))), (0, .ref (ad 0 0 0)), (1, .int x)]) hx hb dL_holds_355 hl (by decide) rfl (fun ls hl => ?_)
            refine lv_iload hx hb dL_holds_357 (lv_at hl 4 rfl) ?_
            refine lv_aload_n hx hb dL_holds_359 rfl (lv_at hl 9 rfl) ?_
            refine lv_iconst (v := 3) hx hb dL_holds_360 (by decide) ?_
            refine lv_iload hx hb dL_holds_361 (lv_at hl 5 rfl) ?_
            refine lv_iload hx hb dL_holds_363 (lv_at hl 3 rfl) ?_
            refine lv_iconst (v := 3) hx hb dL_holds_365 (by decide) ?_
            refine cl_i (va_runS (As := [.ref (ad 0 0 0), .int (3 : Int32), .int (nI d), .int (nI i), .int (3 : Int32)]) (rest := [.int (nI (sN (FF d) i))]) ⟨hx, hb, hml, hown, hts⟩ (cca l hlt D cy ad (B := _) (V := V) (V' := V) hB (what := (3 : Int32)) (a := (nI d)) (b := (nI i)) (c := (3 : Int32)) (r := (nI (FF d i))) (f2) ((wc_3 V (nI d) (nI i) (3 : Int32))) ((n15 (by decide))) H.size) (va_cwS 5 hts gL_holds_L_call rfl rfl rfl (by decide +kernel) ⟨Nat.le_of_ble_eq_true rfl, Nat.le_of_ble_eq_true rfl⟩) ⟨blU, preU hP hD (pmI _) hK hE hS hA⟩ rfl rfl hl.1 rfl (lv_room (Nat.le_of_ble_eq_true rfl)) dL_holds_366 ⟨(show (c2 + 9) ≤ 1670 by omega), (show (s2 + 54) ≤ 10020 by omega)⟩) hP hD (pmI _) hS hA (fun H locs hP hD hS => ?_)
            have hP : va_P D vwCl (wB cy ad V) H := vP_perm hP (pmI _).symm
            have hD : va_D A (wB cy ad V) := vD_perm hD (pmI _).symm
            refine lv_iadd hx hb dL_holds_369 ?_
            rw [nI_add (sN (FF d) i) (FF d i)]
            refine lv_istore (lv' := [(7, .int (nI (sN (FF d) i + FF d i))), (8, .int (nI (cN (UU d) (i + 1)))), (6, .int (nI (sN (UU d) i + UU d i))), (10, .int (nI (UU d i))), (9, .int (nI i)), (5, .int (nI d)), (4, .int (1 : Int32)), (2, .int (nI (sN G 26))), (3, .int (nI (sN R 26))), (0, .ref (ad 0 0 0)), (1, .int x)]) hx hb dL_holds_370 hl (by decide) rfl (fun ls hl => ?_)
            refine lv_iinc (v := (nI (i + 1))) (lv' := [(9, .int (nI (i + 1))), (7, .int (nI (sN (FF d) i + FF d i))), (8, .int (nI (cN (UU d) (i + 1)))), (6, .int (nI (sN (UU d) i + UU d i))), (10, .int (nI (UU d i))), (5, .int (nI d)), (4, .int (1 : Int32)), (2, .int (nI (sN G 26))), (3, .int (nI (sN R 26))), (0, .ref (ad 0 0 0)), (1, .int x)]) hx hb dL_holds_372 hl (k := 4) rfl (nI_1 i) (by decide) rfl (fun ls hl => ?_)
            refine lv_goto (tgt := 307) hx hb dL_holds_375 (by decide) ?_
            exact ih2 (i + 1) (c2 + 9) (s2 + 54) (by omega) (by omega) (by omega) H locs hP hD hS ls (lv_sub hl [0, 3, 1, 2, 5, 6, 7, 8, 9, 10] rfl)
          by_cases h0 : UU d i = 0
          · refine lv_if_le (tgt := 353) hx hb dL_holds_346 (by decide) (fun c_36 => ?_) (fun c_36 => absurd (by rw [h0]; exact Int32.le_refl _) c_36)
            refine lv_iconst (v := 0) hx hb dL_holds_353 (by decide) ?_
            have e3 : ci = 0 := by rw [← hci, if_pos h0]
            have q3 := jn H locs hP hD hS ls (lv_sub hl [0, 1, 2, 3, 4, 5, 6, 7, 8, 9, 10] rfl)
            rw [e3] at q3
            exact q3
          · refine lv_if_le (tgt := 353) hx hb dL_holds_346 (by decide) (fun c_37 => absurd c_37 (nI_nle (by omega) (by omega))) (fun c_37 => ?_)
            refine lv_iconst (v := 1) hx hb dL_holds_349 (by decide) ?_
            refine lv_goto (tgt := 354) hx hb dL_holds_350 (by decide) ?_
            have e3 : ci = 1 := by rw [← hci, if_neg h0]
            have q3 := jn H locs hP hD hS ls (lv_sub hl [0, 1, 2, 3, 4, 5, 6, 7, 8, 9, 10] rfl)
            rw [e3] at q3
            exact q3
      refine lv_iload hx hb dL_holds_284 (lv_at hl 0 rfl) ?_
      refine lv_iconst (v := 2) hx hb dL_holds_286 (by decide) ?_
      refine lv_icmp_ge (tgt := 453) hx hb dL_holds_287 (by decide) (fun c_38 => absurd c_38 (nI_ge (a := d) (b := 2) (by omega) (by decide))) (fun c_38 => ?_)
      refine lv_iload hx hb dL_holds_290 (lv_at hl 1 rfl) ?_
      refine lv_if_eq (tgt := 453) hx hb dL_holds_292 (by decide) (fun c_39 => absurd c_39 (by decide)) (fun c_39 => ?_)
      refine lv_iconst (v := 0) hx hb dL_holds_295 (by decide) ?_
      refine lv_istore (lv' := [(6, .int (0 : Int32)), (5, .int (nI d)), (4, .int (1 : Int32)), (2, .int (nI (sN G 26))), (3, .int (nI (sN R 26))), (0, .ref (ad 0 0 0)), (1, .int x)]) hx hb dL_holds_296 hl (by decide) rfl (fun ls hl => ?_)
      refine lv_iconst (v := 0) hx hb dL_holds_298 (by decide) ?_
      refine lv_istore (lv' := [(7, .int (0 : Int32)), (6, .int (0 : Int32)), (5, .int (nI d)), (4, .int (1 : Int32)), (2, .int (nI (sN G 26))), (3, .int (nI (sN R 26))), (0, .ref (ad 0 0 0)), (1, .int x)]) hx hb dL_holds_299 hl (by decide) rfl (fun ls hl => ?_)
      refine lv_iconst (v := 0) hx hb dL_holds_301 (by decide) ?_
      refine lv_istore (lv' := [(8, .int (0 : Int32)), (7, .int (0 : Int32)), (6, .int (0 : Int32)), (5, .int (nI d)), (4, .int (1 : Int32)), (2, .int (nI (sN G 26))), (3, .int (nI (sN R 26))), (0, .ref (ad 0 0 0)), (1, .int x)]) hx hb dL_holds_302 hl (by decide) rfl (fun ls hl => ?_)
      refine lv_iconst (v := 0) hx hb dL_holds_304 (by decide) ?_
      refine lv_istore (lv' := [(9, .int (0 : Int32)), (8, .int (0 : Int32)), (7, .int (0 : Int32)), (6, .int (0 : Int32)), (5, .int (nI d)), (4, .int (1 : Int32)), (2, .int (nI (sN G 26))), (3, .int (nI (sN R 26))), (0, .ref (ad 0 0 0)), (1, .int x)]) hx hb dL_holds_305 hl (by decide) rfl (fun ls hl => ?_)
      exact lpi (2 ^ z) 0 cs sl (by omega) (by omega) (by omega) H locs hP hD hS ls (lv_sub hl [0, 3, 2, 1, 4, 5, 6, 7, 8, 9] rfl)
  have ex1 : ∀ (H : Heap) (locs : List Loc), va_P D vwCl (wB cy ad V) H → va_D A (wB cy ad V) → va_S A s.heap H locs → ∀ ls : Array Slot, lv_has ls 11 [(5, .int (nI 26)), (4, .int (1 : Int32)), (3, .int (nI (sN R 26))), (2, .int (nI (sN G 26))), (0, .ref (ad 0 0 0)), (1, .int x)] → W pp l e rL_holds s m ([.ref (ad 0 0 0), .int x] : List Value).toArray below meth c H locs 390 2340 Q (F0 m 186 ls []) := by
    intro H locs hP hD hS ls hl
    refine lv_iload hx hb dL_holds_186 (lv_at hl 1 rfl) ?_
    refine lv_if_eq (tgt := 278) hx hb dL_holds_188 (by decide) (fun c_40 => absurd c_40 (by decide)) (fun c_40 => ?_)
    refine lv_aload_n hx hb dL_holds_191 rfl (lv_at hl 4 rfl) ?_
    refine lv_iconst (v := 1) hx hb dL_holds_192 (by decide) ?_
    refine lv_iconst (v := 0) hx hb dL_holds_193 (by decide) ?_
    refine lv_iconst (v := 0) hx hb dL_holds_194 (by decide) ?_
    refine lv_iconst (v := 0) hx hb dL_holds_195 (by decide) ?_
    refine cl_i (va_runS (As := [.ref (ad 0 0 0), .int (1 : Int32), .int (0 : Int32), .int (0 : Int32), .int (0 : Int32)]) (rest := []) ⟨hx, hb, hml, hown, hts⟩ (cca l hlt D cy ad (B := _) (V := V) (V' := V) hB (what := (1 : Int32)) (a := (0 : Int32)) (b := (0 : Int32)) (c := (0 : Int32)) (r := (nI (sN G 26))) ((fb_a0 V 0 0).trans (by rw [k3, k2])) ((wc_1 V (0 : Int32) (0 : Int32) (0 : Int32))) ((n15 (by decide))) H.size) (va_cwS 5 hts gL_holds_L_call rfl rfl rfl (by decide +kernel) ⟨Nat.le_of_ble_eq_true rfl, Nat.le_of_ble_eq_true rfl⟩) ⟨blU, preU hP hD (pmI _) hK hE hS hA⟩ rfl rfl hl.1 rfl (lv_room (Nat.le_of_ble_eq_true rfl)) dL_holds_196 ⟨Nat.le_of_ble_eq_true rfl, Nat.le_of_ble_eq_true rfl⟩) hP hD (pmI _) hS hA (fun H locs hP hD hS => ?_)
    have hP : va_P D vwCl (wB cy ad V) H := vP_perm hP (pmI _).symm
    have hD : va_D A (wB cy ad V) := vD_perm hD (pmI _).symm
    refine lv_iload_n hx hb dL_holds_199 rfl (lv_at hl 3 rfl) ?_
    refine lv_icmp_ne (tgt := 278) hx hb dL_holds_200 (by decide) (fun c_41 => absurd rfl c_41) (fun c_41 => ?_)
    refine lv_aload_n hx hb dL_holds_203 rfl (lv_at hl 4 rfl) ?_
    refine lv_iconst (v := 1) hx hb dL_holds_204 (by decide) ?_
    refine lv_iconst (v := 1) hx hb dL_holds_205 (by decide) ?_
    refine lv_iconst (v := 0) hx hb dL_holds_206 (by decide) ?_
    refine lv_iconst (v := 0) hx hb dL_holds_207 (by decide) ?_
    refine cl_i (va_runS (As := [.ref (ad 0 0 0), .int (1 : Int32), .int (1 : Int32), .int (0 : Int32), .int (0 : Int32)]) (rest := []) ⟨hx, hb, hml, hown, hts⟩ (cca l hlt D cy ad (B := _) (V := V) (V' := V) hB (what := (1 : Int32)) (a := (1 : Int32)) (b := (0 : Int32)) (c := (0 : Int32)) (r := (nI (sN R 26))) ((fb_a1 V 0 0).trans k4) ((wc_1 V (1 : Int32) (0 : Int32) (0 : Int32))) ((n15 (by decide))) H.size) (va_cwS 5 hts gL_holds_L_call rfl rfl rfl (by decide +kernel) ⟨Nat.le_of_ble_eq_true rfl, Nat.le_of_ble_eq_true rfl⟩) ⟨blU, preU hP hD (pmI _) hK hE hS hA⟩ rfl rfl hl.1 rfl (lv_room (Nat.le_of_ble_eq_true rfl)) dL_holds_208 ⟨Nat.le_of_ble_eq_true rfl, Nat.le_of_ble_eq_true rfl⟩) hP hD (pmI _) hS hA (fun H locs hP hD hS => ?_)
    have hP : va_P D vwCl (wB cy ad V) H := vP_perm hP (pmI _).symm
    have hD : va_D A (wB cy ad V) := vD_perm hD (pmI _).symm
    refine lv_iload_n hx hb dL_holds_211 rfl (lv_at hl 2 rfl) ?_
    refine lv_icmp_ne (tgt := 278) hx hb dL_holds_212 (by decide) (fun c_42 => absurd rfl c_42) (fun c_42 => ?_)
    refine lv_aload_n hx hb dL_holds_215 rfl (lv_at hl 4 rfl) ?_
    refine lv_iconst (v := 1) hx hb dL_holds_216 (by decide) ?_
    refine lv_iconst (v := 2) hx hb dL_holds_217 (by decide) ?_
    refine lv_iconst (v := 0) hx hb dL_holds_218 (by decide) ?_
    refine lv_iconst (v := 0) hx hb dL_holds_219 (by decide) ?_
    refine cl_i (va_runS (As := [.ref (ad 0 0 0), .int (1 : Int32), .int (2 : Int32), .int (0 : Int32), .int (0 : Int32)]) (rest := []) ⟨hx, hb, hml, hown, hts⟩ (cca l hlt D cy ad (B := _) (V := V) (V' := V) hB (what := (1 : Int32)) (a := (2 : Int32)) (b := (0 : Int32)) (c := (0 : Int32)) (r := ((nI (sN R 26)) - (nI (q * (N - sN R 26))))) ((fb_a2 V 0 0).trans k5) ((wc_1 V (2 : Int32) (0 : Int32) (0 : Int32))) ((n15 (by decide))) H.size) (va_cwS 5 hts gL_holds_L_call rfl rfl rfl (by decide +kernel) ⟨Nat.le_of_ble_eq_true rfl, Nat.le_of_ble_eq_true rfl⟩) ⟨blU, preU hP hD (pmI _) hK hE hS hA⟩ rfl rfl hl.1 rfl (lv_room (Nat.le_of_ble_eq_true rfl)) dL_holds_220 ⟨Nat.le_of_ble_eq_true rfl, Nat.le_of_ble_eq_true rfl⟩) hP hD (pmI _) hS hA (fun H locs hP hD hS => ?_)
    have hP : va_P D vwCl (wB cy ad V) H := vP_perm hP (pmI _).symm
    have hD : va_D A (wB cy ad V) := vD_perm hD (pmI _).symm
    refine lv_iload_n hx hb dL_holds_223 rfl (lv_at hl 2 rfl) ?_
    refine lv_aload_n hx hb dL_holds_224 rfl (lv_at hl 4 rfl) ?_
    refine lv_iconst (v := 1) hx hb dL_holds_225 (by decide) ?_
    refine lv_bipush (v := 9) hx hb dL_holds_226 (by decide) ?_
    refine lv_iconst (v := 0) hx hb dL_holds_228 (by decide) ?_
    refine lv_iconst (v := 0) hx hb dL_holds_229 (by decide) ?_
    refine cl_i (va_runS (As := [.ref (ad 0 0 0), .int (1 : Int32), .int (9 : Int32), .int (0 : Int32), .int (0 : Int32)]) (rest := [.int (nI (sN R 26)), .int ((nI (sN R 26)) - (nI (q * (N - sN R 26))))]) ⟨hx, hb, hml, hown, hts⟩ (cca l hlt D cy ad (B := _) (V := V) (V' := V) hB (what := (1 : Int32)) (a := (9 : Int32)) (b := (0 : Int32)) (c := (0 : Int32)) (r := (nI q)) ((fb_a9 V 0 0).trans q2) ((wc_1 V (9 : Int32) (0 : Int32) (0 : Int32))) ((n15 (by decide))) H.size) (va_cwS 5 hts gL_holds_L_call rfl rfl rfl (by decide +kernel) ⟨Nat.le_of_ble_eq_true rfl, Nat.le_of_ble_eq_true rfl⟩) ⟨blU, preU hP hD (pmI _) hK hE hS hA⟩ rfl rfl hl.1 rfl (lv_room (Nat.le_of_ble_eq_true rfl)) dL_holds_230 ⟨Nat.le_of_ble_eq_true rfl, Nat.le_of_ble_eq_true rfl⟩) hP hD (pmI _) hS hA (fun H locs hP hD hS => ?_)
    have hP : va_P D vwCl (wB cy ad V) H := vP_perm hP (pmI _).symm
    have hD : va_D A (wB cy ad V) := vD_perm hD (pmI _).symm
    refine lv_iload_n hx hb dL_holds_233 rfl (lv_at hl 3 rfl) ?_
    refine lv_iload_n hx hb dL_holds_234 rfl (lv_at hl 2 rfl) ?_
    refine lv_isub hx hb dL_holds_235 ?_
    refine lv_imul hx hb dL_holds_236 ?_
    refine lv_isub hx hb dL_holds_237 ?_
    refine lv_icmp_ne (tgt := 278) hx hb dL_holds_238 (by decide) (fun c_43 => absurd (by rw [pk_sub hRN, pk_mul, k2]) c_43) (fun c_43 => ?_)
    refine lv_aload_n hx hb dL_holds_241 rfl (lv_at hl 4 rfl) ?_
    refine lv_iconst (v := 1) hx hb dL_holds_242 (by decide) ?_
    refine lv_iconst (v := 5) hx hb dL_holds_243 (by decide) ?_
    refine lv_iconst (v := 0) hx hb dL_holds_244 (by decide) ?_
    refine lv_iconst (v := 0) hx hb dL_holds_245 (by decide) ?_
    refine cl_i (va_runS (As := [.ref (ad 0 0 0), .int (1 : Int32), .int (5 : Int32), .int (0 : Int32), .int (0 : Int32)]) (rest := []) ⟨hx, hb, hml, hown, hts⟩ (cca l hlt D cy ad (B := _) (V := V) (V' := V) hB (what := (1 : Int32)) (a := (5 : Int32)) (b := (0 : Int32)) (c := (0 : Int32)) (r := (nI sr)) ((fb_a5 V 0 0).trans k6) ((wc_1 V (5 : Int32) (0 : Int32) (0 : Int32))) ((n15 (by decide))) H.size) (va_cwS 5 hts gL_holds_L_call rfl rfl rfl (by decide +kernel) ⟨Nat.le_of_ble_eq_true rfl, Nat.le_of_ble_eq_true rfl⟩) ⟨blU, preU hP hD (pmI _) hK hE hS hA⟩ rfl rfl hl.1 rfl (lv_room (Nat.le_of_ble_eq_true rfl)) dL_holds_246 ⟨Nat.le_of_ble_eq_true rfl, Nat.le_of_ble_eq_true rfl⟩) hP hD (pmI _) hS hA (fun H locs hP hD hS => ?_)
    have hP : va_P D vwCl (wB cy ad V) H := vP_perm hP (pmI _).symm
    have hD : va_D A (wB cy ad V) := vD_perm hD (pmI _).symm
    refine lv_aload_n hx hb dL_holds_249 rfl (lv_at hl 4 rfl) ?_
    refine lv_iconst (v := 1) hx hb dL_holds_250 (by decide) ?_
    refine lv_bipush (v := 6) hx hb dL_holds_251 (by decide) ?_
    refine lv_iconst (v := 0) hx hb dL_holds_253 (by decide) ?_
    refine lv_iconst (v := 0) hx hb dL_holds_254 (by decide) ?_
    refine cl_i (va_runS (As := [.ref (ad 0 0 0), .int (1 : Int32), .int (6 : Int32), .int (0 : Int32), .int (0 : Int32)]) (rest := [.int (nI sr)]) ⟨hx, hb, hml, hown, hts⟩ (cca l hlt D cy ad (B := _) (V := V) (V' := V) hB (what := (1 : Int32)) (a := (6 : Int32)) (b := (0 : Int32)) (c := (0 : Int32)) (r := (nI L0)) ((fb_a6 V 0 0).trans k7) ((wc_1 V (6 : Int32) (0 : Int32) (0 : Int32))) ((n15 (by decide))) H.size) (va_cwS 5 hts gL_holds_L_call rfl rfl rfl (by decide +kernel) ⟨Nat.le_of_ble_eq_true rfl, Nat.le_of_ble_eq_true rfl⟩) ⟨blU, preU hP hD (pmI _) hK hE hS hA⟩ rfl rfl hl.1 rfl (lv_room (Nat.le_of_ble_eq_true rfl)) dL_holds_255 ⟨Nat.le_of_ble_eq_true rfl, Nat.le_of_ble_eq_true rfl⟩) hP hD (pmI _) hS hA (fun H locs hP hD hS => ?_)
    have hP : va_P D vwCl (wB cy ad V) H := vP_perm hP (pmI _).symm
    have hD : va_D A (wB cy ad V) := vD_perm hD (pmI _).symm
    refine lv_icmp_gt (tgt := 278) hx hb dL_holds_258 (by decide) (fun c_44 => absurd c_44 (nI_nlt k8 (by omega))) (fun c_44 => ?_)
    refine lv_aload_n hx hb dL_holds_261 rfl (lv_at hl 4 rfl) ?_
    refine lv_iconst (v := 1) hx hb dL_holds_262 (by decide) ?_
    refine lv_bipush (v := 6) hx hb dL_holds_263 (by decide) ?_
    refine lv_iconst (v := 0) hx hb dL_holds_265 (by decide) ?_
    refine lv_iconst (v := 0) hx hb dL_holds_266 (by decide) ?_
    refine cl_i (va_runS (As := [.ref (ad 0 0 0), .int (1 : Int32), .int (6 : Int32), .int (0 : Int32), .int (0 : Int32)]) (rest := []) ⟨hx, hb, hml, hown, hts⟩ (cca l hlt D cy ad (B := _) (V := V) (V' := V) hB (what := (1 : Int32)) (a := (6 : Int32)) (b := (0 : Int32)) (c := (0 : Int32)) (r := (nI L0)) ((fb_a6 V 0 0).trans k7) ((wc_1 V (6 : Int32) (0 : Int32) (0 : Int32))) ((n15 (by decide))) H.size) (va_cwS 5 hts gL_holds_L_call rfl rfl rfl (by decide +kernel) ⟨Nat.le_of_ble_eq_true rfl, Nat.le_of_ble_eq_true rfl⟩) ⟨blU, preU hP hD (pmI _) hK hE hS hA⟩ rfl rfl hl.1 rfl (lv_room (Nat.le_of_ble_eq_true rfl)) dL_holds_267 ⟨Nat.le_of_ble_eq_true rfl, Nat.le_of_ble_eq_true rfl⟩) hP hD (pmI _) hS hA (fun H locs hP hD hS => ?_)
    have hP : va_P D vwCl (wB cy ad V) H := vP_perm hP (pmI _).symm
    have hD : va_D A (wB cy ad V) := vD_perm hD (pmI _).symm
    refine lv_iload_n hx hb dL_holds_270 rfl (lv_at hl 2 rfl) ?_
    refine lv_icmp_gt (tgt := 278) hx hb dL_holds_271 (by decide) (fun c_45 => absurd c_45 (nI_nlt k9 (by omega))) (fun c_45 => ?_)
    refine lv_iconst (v := 1) hx hb dL_holds_274 (by decide) ?_
    refine lv_goto (tgt := 279) hx hb dL_holds_275 (by decide) ?_
    refine lv_istore (lv' := [(4, .int (1 : Int32)), (5, .int (nI 26)), (3, .int (nI (sN R 26))), (2, .int (nI (sN G 26))), (0, .ref (ad 0 0 0)), (1, .int x)]) hx hb dL_holds_279 hl (by decide) rfl (fun ls hl => ?_)
    refine lv_iconst (v := 0) hx hb dL_holds_281 (by decide) ?_
    refine lv_istore (lv' := [(5, .int (0 : Int32)), (4, .int (1 : Int32)), (3, .int (nI (sN R 26))), (2, .int (nI (sN G 26))), (0, .ref (ad 0 0 0)), (1, .int x)]) hx hb dL_holds_282 hl (by decide) rfl (fun ls hl => ?_)
    exact lpd 2 0 411 2466 (by omega) (by omega) (by omega) H locs hP hD hS ls (lv_sub hl [0, 1, 3, 2, 4, 5] rfl)
  have lp1 : ∀ (k i cs sl : Nat) (_ : i + k = 26) (_ : cs + 15 * k ≤ 390) (_ : sl + 90 * k ≤ 2340) (H : Heap) (locs : List Loc), va_P D vwCl (wB cy ad V) H → va_D A (wB cy ad V) → va_S A s.heap H locs → ∀ ls : Array Slot, lv_has ls 11 [(5, .int (nI i)), (4, .int (1 : Int32)), (3, .int (nI (sN R i))), (2, .int (nI (sN G i))), (0, .ref (ad 0 0 0)), (1, .int x)] → W pp l e rL_holds s m ([.ref (ad 0 0 0), .int x] : List Value).toArray below meth c H locs cs sl Q (F0 m 10 ls []) := by
    intro k
    induction k with
    | zero =>
      intro i cs sl hi hc hs H locs hP hD hS ls hl
      have hi9 : i = 26 := by omega
      subst hi9
      refine lv_iload hx hb dL_holds_10 (lv_at hl 0 rfl) ?_
      refine lv_bipush (v := 26) hx hb dL_holds_12 (by decide) ?_
      refine lv_icmp_ge (tgt := 186) hx hb dL_holds_14 (by decide) (fun c_46 => ?_) (fun c_46 => absurd (show (26 : Int32) ≤ nI 26 from Int32.le_refl _) c_46)
      refine W.widen (k := 390) (n := 2340) (by omega) (by omega) ?_
      exact ex1 H locs hP hD hS ls (lv_sub hl [0, 1, 2, 3, 4, 5] rfl)
    | succ k ih =>
      intro i cs sl hi hc hs H locs hP hD hS ls hl
      have ki := k1 i (by omega)
      have hGi := hGB i (by omega)
      refine lv_iload hx hb dL_holds_10 (lv_at hl 0 rfl) ?_
      refine lv_bipush (v := 26) hx hb dL_holds_12 (by decide) ?_
      refine lv_icmp_ge (tgt := 186) hx hb dL_holds_14 (by decide) (fun c_47 => absurd c_47 (nI_ge (a := i) (b := 26) (by omega) (by decide))) (fun c_47 => ?_)
      refine lv_iload hx hb dL_holds_17 (lv_at hl 1 rfl) ?_
      refine lv_if_eq (tgt := 186) hx hb dL_holds_19 (by decide) (fun c_48 => absurd c_48 (by decide)) (fun c_48 => ?_)
      refine lv_aload_n hx hb dL_holds_22 rfl (lv_at hl 4 rfl) ?_
      refine lv_iconst (v := 4) hx hb dL_holds_23 (by decide) ?_
      refine lv_iload hx hb dL_holds_24 (lv_at hl 0 rfl) ?_
      refine lv_iconst (v := 0) hx hb dL_holds_26 (by decide) ?_
      refine lv_iconst (v := 0) hx hb dL_holds_27 (by decide) ?_
      refine cl_i (va_runS (As := [.ref (ad 0 0 0), .int (4 : Int32), .int (nI i), .int (0 : Int32), .int (0 : Int32)]) (rest := []) ⟨hx, hb, hml, hown, hts⟩ (cca l hlt D cy ad (B := _) (V := V) (V' := V) hB (what := (4 : Int32)) (a := (nI i)) (b := (0 : Int32)) (c := (0 : Int32)) (r := (nI (G i))) ((fb_p0 V (by omega) 0).trans ki.1.1) ((wc_4 V (nI i) (0 : Int32) (0 : Int32))) ((n15 (by decide))) H.size) (va_cwS 5 hts gL_holds_L_call rfl rfl rfl (by decide +kernel) ⟨Nat.le_of_ble_eq_true rfl, Nat.le_of_ble_eq_true rfl⟩) ⟨blU, preU hP hD (pmI _) hK hE hS hA⟩ rfl rfl hl.1 rfl (lv_room (Nat.le_of_ble_eq_true rfl)) dL_holds_28 ⟨(show (cs + 3) ≤ 1670 by omega), (show (sl + 18) ≤ 10020 by omega)⟩) hP hD (pmI _) hS hA (fun H locs hP hD hS => ?_)
      have hP : va_P D vwCl (wB cy ad V) H := vP_perm hP (pmI _).symm
      have hD : va_D A (wB cy ad V) := vD_perm hD (pmI _).symm
      refine lv_istore (lv' := [(6, .int (nI (G i))), (5, .int (nI i)), (4, .int (1 : Int32)), (3, .int (nI (sN R i))), (2, .int (nI (sN G i))), (0, .ref (ad 0 0 0)), (1, .int x)]) hx hb dL_holds_31 hl (by decide) rfl (fun ls hl => ?_)
      refine lv_aload_n hx hb dL_holds_33 rfl (lv_at hl 5 rfl) ?_
      refine lv_iconst (v := 4) hx hb dL_holds_34 (by decide) ?_
      refine lv_iload hx hb dL_holds_35 (lv_at hl 1 rfl) ?_
      refine lv_iconst (v := 1) hx hb dL_holds_37 (by decide) ?_
      refine lv_iconst (v := 0) hx hb dL_holds_38 (by decide) ?_
      refine cl_i (va_runS (As := [.ref (ad 0 0 0), .int (4 : Int32), .int (nI i), .int (1 : Int32), .int (0 : Int32)]) (rest := []) ⟨hx, hb, hml, hown, hts⟩ (cca l hlt D cy ad (B := _) (V := V) (V' := V) hB (what := (4 : Int32)) (a := (nI i)) (b := (1 : Int32)) (c := (0 : Int32)) (r := (nI (T i))) ((fb_p1 V (by omega) 0).trans ki.1.2.1) ((wc_4 V (nI i) (1 : Int32) (0 : Int32))) ((n15 (by decide))) H.size) (va_cwS 5 hts gL_holds_L_call rfl rfl rfl (by decide +kernel) ⟨Nat.le_of_ble_eq_true rfl, Nat.le_of_ble_eq_true rfl⟩) ⟨blU, preU hP hD (pmI _) hK hE hS hA⟩ rfl rfl hl.1 rfl (lv_room (Nat.le_of_ble_eq_true rfl)) dL_holds_39 ⟨(show (cs + 6) ≤ 1670 by omega), (show (sl + 36) ≤ 10020 by omega)⟩) hP hD (pmI _) hS hA (fun H locs hP hD hS => ?_)
      have hP : va_P D vwCl (wB cy ad V) H := vP_perm hP (pmI _).symm
      have hD : va_D A (wB cy ad V) := vD_perm hD (pmI _).symm
      refine lv_istore (lv' := [(7, .int (nI (T i))), (6, .int (nI (G i))), (5, .int (nI i)), (4, .int (1 : Int32)), (3, .int (nI (sN R i))), (2, .int (nI (sN G i))), (0, .ref (ad 0 0 0)), (1, .int x)]) hx hb dL_holds_42 hl (by decide) rfl (fun ls hl => ?_)
      refine lv_aload_n hx hb dL_holds_44 rfl (lv_at hl 6 rfl) ?_
      refine lv_iconst (v := 4) hx hb dL_holds_45 (by decide) ?_
      refine lv_iload hx hb dL_holds_46 (lv_at hl 2 rfl) ?_
      refine lv_iconst (v := 2) hx hb dL_holds_48 (by decide) ?_
      refine lv_iconst (v := 0) hx hb dL_holds_49 (by decide) ?_
      refine cl_i (va_runS (As := [.ref (ad 0 0 0), .int (4 : Int32), .int (nI i), .int (2 : Int32), .int (0 : Int32)]) (rest := []) ⟨hx, hb, hml, hown, hts⟩ (cca l hlt D cy ad (B := _) (V := V) (V' := V) hB (what := (4 : Int32)) (a := (nI i)) (b := (2 : Int32)) (c := (0 : Int32)) (r := (nI (R i))) ((fb_p2 V (by omega) 0).trans ki.1.2.2) ((wc_4 V (nI i) (2 : Int32) (0 : Int32))) ((n15 (by decide))) H.size) (va_cwS 5 hts gL_holds_L_call rfl rfl rfl (by decide +kernel) ⟨Nat.le_of_ble_eq_true rfl, Nat.le_of_ble_eq_true rfl⟩) ⟨blU, preU hP hD (pmI _) hK hE hS hA⟩ rfl rfl hl.1 rfl (lv_room (Nat.le_of_ble_eq_true rfl)) dL_holds_50 ⟨(show (cs + 9) ≤ 1670 by omega), (show (sl + 54) ≤ 10020 by omega)⟩) hP hD (pmI _) hS hA (fun H locs hP hD hS => ?_)
      have hP : va_P D vwCl (wB cy ad V) H := vP_perm hP (pmI _).symm
      have hD : va_D A (wB cy ad V) := vD_perm hD (pmI _).symm
      refine lv_istore (lv' := [(8, .int (nI (R i))), (7, .int (nI (T i))), (6, .int (nI (G i))), (5, .int (nI i)), (4, .int (1 : Int32)), (3, .int (nI (sN R i))), (2, .int (nI (sN G i))), (0, .ref (ad 0 0 0)), (1, .int x)]) hx hb dL_holds_53 hl (by decide) rfl (fun ls hl => ?_)
      refine lv_iload_n hx hb dL_holds_55 rfl (lv_at hl 6 rfl) ?_
      refine lv_iload hx hb dL_holds_56 (lv_at hl 2 rfl) ?_
      refine lv_iadd hx hb dL_holds_58 ?_
      rw [nI_add (sN G i) (G i)]
      refine lv_istore_n (lv' := [(2, .int (nI (sN G i + G i))), (8, .int (nI (R i))), (7, .int (nI (T i))), (6, .int (nI (G i))), (5, .int (nI i)), (4, .int (1 : Int32)), (3, .int (nI (sN R i))), (0, .ref (ad 0 0 0)), (1, .int x)]) hx hb dL_holds_59 rfl hl (by decide) rfl (fun ls hl => ?_)
      refine lv_iload_n hx hb dL_holds_60 rfl (lv_at hl 6 rfl) ?_
      refine lv_iload hx hb dL_holds_61 (lv_at hl 1 rfl) ?_
      refine lv_iadd hx hb dL_holds_63 ?_
      rw [nI_add (sN R i) (R i)]
      refine lv_istore_n (lv' := [(3, .int (nI (sN R i + R i))), (2, .int (nI (sN G i + G i))), (8, .int (nI (R i))), (7, .int (nI (T i))), (6, .int (nI (G i))), (5, .int (nI i)), (4, .int (1 : Int32)), (0, .ref (ad 0 0 0)), (1, .int x)]) hx hb dL_holds_64 rfl hl (by decide) rfl (fun ls hl => ?_)
      refine lv_iload hx hb dL_holds_65 (lv_at hl 3 rfl) ?_
      refine lv_if_lt (tgt := 177) hx hb dL_holds_67 (by decide) (fun c_49 => absurd c_49 (nI_pos (by omega))) (fun c_49 => ?_)
      refine lv_iload hx hb dL_holds_70 (lv_at hl 3 rfl) ?_
      refine lv_iload hx hb dL_holds_72 (lv_at hl 4 rfl) ?_
      refine lv_icmp_gt (tgt := 177) hx hb dL_holds_74 (by decide) (fun c_50 => absurd c_50 (nI_nlt ki.2.1 (by omega))) (fun c_50 => ?_)
      refine lv_iload hx hb dL_holds_77 (lv_at hl 2 rfl) ?_
      refine lv_iload hx hb dL_holds_79 (lv_at hl 4 rfl) ?_
      refine lv_icmp_gt (tgt := 177) hx hb dL_holds_81 (by decide) (fun c_51 => absurd c_51 (nI_nlt ki.2.2 (by omega))) (fun c_51 => ?_)
      refine lv_iload hx hb dL_holds_84 (lv_at hl 4 rfl) ?_
      have jp : ∀ (H : Heap) (locs : List Loc), va_P D vwCl (wB cy ad V) H → va_D A (wB cy ad V) → va_S A s.heap H locs → ∀ ls : Array Slot, lv_has ls 11 [(3, .int (nI (sN R i + R i))), (2, .int (nI (sN G i + G i))), (8, .int (nI (R i))), (7, .int (nI (T i))), (6, .int (nI (G i))), (5, .int (nI i)), (4, .int (1 : Int32)), (0, .ref (ad 0 0 0)), (1, .int x)] → W pp l e rL_holds s m ([.ref (ad 0 0 0), .int x] : List Value).toArray below meth c H locs (cs + 15) (sl + 90) Q (F0 m 173 ls []) := by
        intro H locs hP hD hS ls hl
        refine lv_iconst (v := 1) hx hb dL_holds_173 (by decide) ?_
        refine lv_goto (tgt := 178) hx hb dL_holds_174 (by decide) ?_
        refine lv_istore (lv' := [(4, .int (1 : Int32)), (3, .int (nI (sN R i + R i))), (2, .int (nI (sN G i + G i))), (8, .int (nI (R i))), (7, .int (nI (T i))), (6, .int (nI (G i))), (5, .int (nI i)), (0, .ref (ad 0 0 0)), (1, .int x)]) hx hb dL_holds_178 hl (by decide) rfl (fun ls hl => ?_)
        refine lv_iinc (v := (nI (i + 1))) (lv' := [(5, .int (nI (i + 1))), (4, .int (1 : Int32)), (3, .int (nI (sN R i + R i))), (2, .int (nI (sN G i + G i))), (8, .int (nI (R i))), (7, .int (nI (T i))), (6, .int (nI (G i))), (0, .ref (ad 0 0 0)), (1, .int x)]) hx hb dL_holds_180 hl (k := 6) rfl (nI_1 i) (by decide) rfl (fun ls hl => ?_)
        refine lv_goto (tgt := 10) hx hb dL_holds_183 (by decide) ?_
        exact ih (i + 1) (cs + 15) (sl + 90) (by omega) (by omega) (by omega) H locs hP hD hS ls (lv_sub hl [0, 1, 2, 3, 7, 8] rfl)
      by_cases hG0 : G i = 0
      · refine lv_if_ne (tgt := 107) hx hb dL_holds_86 (by decide) (fun c_52 => absurd (by rw [hG0]; rfl) c_52) (fun c_52 => ?_)
        refine lv_aload_n hx hb dL_holds_89 rfl (lv_at hl 7 rfl) ?_
        refine lv_bipush (v := 7) hx hb dL_holds_90 (by decide) ?_
        refine lv_iload hx hb dL_holds_92 (lv_at hl 5 rfl) ?_
        refine lv_iconst (v := 0) hx hb dL_holds_94 (by decide) ?_
        refine lv_iconst (v := 0) hx hb dL_holds_95 (by decide) ?_
        refine cl_i (va_runS (As := [.ref (ad 0 0 0), .int (7 : Int32), .int (nI i), .int (0 : Int32), .int (0 : Int32)]) (rest := []) ⟨hx, hb, hml, hown, hts⟩ (cca l hlt D cy ad (B := _) (V := V) (V' := V) hB (what := (7 : Int32)) (a := (nI i)) (b := (0 : Int32)) (c := (0 : Int32)) (r := (-99999 : Int32)) ((fb_sh V (by omega) 0 0).trans (if_pos (by rw [ki.1.1, hG0]; exact Int32.le_refl _))) ((wc_7 V (nI i) (0 : Int32) (0 : Int32))) ((n15 (by decide))) H.size) (va_cwS 5 hts gL_holds_L_call rfl rfl rfl (by decide +kernel) ⟨Nat.le_of_ble_eq_true rfl, Nat.le_of_ble_eq_true rfl⟩) ⟨blU, preU hP hD (pmI _) hK hE hS hA⟩ rfl rfl hl.1 rfl (lv_room (Nat.le_of_ble_eq_true rfl)) dL_holds_96 ⟨(show (cs + 12) ≤ 1670 by omega), (show (sl + 72) ≤ 10020 by omega)⟩) hP hD (pmI _) hS hA (fun H locs hP hD hS => ?_)
        have hP : va_P D vwCl (wB cy ad V) H := vP_perm hP (pmI _).symm
        have hD : va_D A (wB cy ad V) := vD_perm hD (pmI _).symm
        refine lv_ldc (v := (-99999)) hx hb hown (hts _ (List.mem_of_getElem? (i := 1) rfl)) dL_holds_99 ?_
        refine lv_icmp_ne (tgt := 177) hx hb dL_holds_101 (by decide) (fun c_53 => absurd (by decide) c_53) (fun c_53 => ?_)
        refine lv_goto (tgt := 173) hx hb dL_holds_104 (by decide) ?_
        refine W.widen (k := (cs + 15)) (n := (sl + 90)) (by omega) (by omega) ?_
        exact jp H locs hP hD hS ls (lv_sub hl [0, 1, 2, 3, 4, 5, 6, 7, 8] rfl)
      · have hsv : r_L_call V 7 (nI i) 0 0 = r_X5_quotientBits (nI (T i)) (nI (G i)) := by rw [fb_sh V (by omega), ki.1.1, ki.1.2.1, if_neg (nI_nle (by omega) (by omega))]
        obtain ⟨w1, w2, w3⟩ := share_of (a := T i) (b := G i) ki.2.1 (by omega) (by omega)
        by_cases hT0 : T i = 0
        · refine lv_if_ne (tgt := 107) hx hb dL_holds_86 (by decide) (fun c_54 => ?_) (fun c_54 => absurd c_54 (nI_ne0 (by omega) (by omega)))
          refine lv_aload_n hx hb dL_holds_107 rfl (lv_at hl 7 rfl) ?_
          refine lv_bipush (v := 7) hx hb dL_holds_108 (by decide) ?_
          refine lv_iload hx hb dL_holds_110 (lv_at hl 5 rfl) ?_
          refine lv_iconst (v := 0) hx hb dL_holds_112 (by decide) ?_
          refine lv_iconst (v := 0) hx hb dL_holds_113 (by decide) ?_
          refine cl_i (va_runS (As := [.ref (ad 0 0 0), .int (7 : Int32), .int (nI i), .int (0 : Int32), .int (0 : Int32)]) (rest := []) ⟨hx, hb, hml, hown, hts⟩ (cca l hlt D cy ad (B := _) (V := V) (V' := V) hB (what := (7 : Int32)) (a := (nI i)) (b := (0 : Int32)) (c := (0 : Int32)) (r := (0 : Int32)) (hsv.trans (w1 hT0)) ((wc_7 V (nI i) (0 : Int32) (0 : Int32))) ((n15 (by decide))) H.size) (va_cwS 5 hts gL_holds_L_call rfl rfl rfl (by decide +kernel) ⟨Nat.le_of_ble_eq_true rfl, Nat.le_of_ble_eq_true rfl⟩) ⟨blU, preU hP hD (pmI _) hK hE hS hA⟩ rfl rfl hl.1 rfl (lv_room (Nat.le_of_ble_eq_true rfl)) dL_holds_114 ⟨(show (cs + 12) ≤ 1670 by omega), (show (sl + 72) ≤ 10020 by omega)⟩) hP hD (pmI _) hS hA (fun H locs hP hD hS => ?_)
          have hP : va_P D vwCl (wB cy ad V) H := vP_perm hP (pmI _).symm
          have hD : va_D A (wB cy ad V) := vD_perm hD (pmI _).symm
          refine lv_if_ne (tgt := 124) hx hb dL_holds_117 (by decide) (fun c_55 => absurd (by decide) c_55) (fun c_55 => ?_)
          refine lv_iconst (v := 1) hx hb dL_holds_120 (by decide) ?_
          refine lv_goto (tgt := 125) hx hb dL_holds_121 (by decide) ?_
          refine lv_iload hx hb dL_holds_125 (lv_at hl 3 rfl) ?_
          refine lv_if_ne (tgt := 134) hx hb dL_holds_127 (by decide) (fun c_56 => absurd (by rw [hT0]; rfl) c_56) (fun c_56 => ?_)
          refine lv_iconst (v := 1) hx hb dL_holds_130 (by decide) ?_
          refine lv_goto (tgt := 135) hx hb dL_holds_131 (by decide) ?_
          refine lv_icmp_ne (tgt := 177) hx hb dL_holds_135 (by decide) (fun c_57 => absurd (by decide) c_57) (fun c_57 => ?_)
          refine lv_aload_n hx hb dL_holds_138 rfl (lv_at hl 7 rfl) ?_
          refine lv_bipush (v := 7) hx hb dL_holds_139 (by decide) ?_
          refine lv_iload hx hb dL_holds_141 (lv_at hl 5 rfl) ?_
          refine lv_iconst (v := 0) hx hb dL_holds_143 (by decide) ?_
          refine lv_iconst (v := 0) hx hb dL_holds_144 (by decide) ?_
          refine cl_i (va_runS (As := [.ref (ad 0 0 0), .int (7 : Int32), .int (nI i), .int (0 : Int32), .int (0 : Int32)]) (rest := []) ⟨hx, hb, hml, hown, hts⟩ (cca l hlt D cy ad (B := _) (V := V) (V' := V) hB (what := (7 : Int32)) (a := (nI i)) (b := (0 : Int32)) (c := (0 : Int32)) (r := (0 : Int32)) (hsv.trans (w1 hT0)) ((wc_7 V (nI i) (0 : Int32) (0 : Int32))) ((n15 (by decide))) H.size) (va_cwS 5 hts gL_holds_L_call rfl rfl rfl (by decide +kernel) ⟨Nat.le_of_ble_eq_true rfl, Nat.le_of_ble_eq_true rfl⟩) ⟨blU, preU hP hD (pmI _) hK hE hS hA⟩ rfl rfl hl.1 rfl (lv_room (Nat.le_of_ble_eq_true rfl)) dL_holds_145 ⟨(show (cs + 15) ≤ 1670 by omega), (show (sl + 90) ≤ 10020 by omega)⟩) hP hD (pmI _) hS hA (fun H locs hP hD hS => ?_)
          have hP : va_P D vwCl (wB cy ad V) H := vP_perm hP (pmI _).symm
          have hD : va_D A (wB cy ad V) := vD_perm hD (pmI _).symm
          refine lv_ldc (v := (1065353216)) hx hb hown (hts _ (List.mem_of_getElem? (i := 2) rfl)) dL_holds_148 ?_
          refine lv_icmp_ne (tgt := 157) hx hb dL_holds_150 (by decide) (fun c_58 => ?_) (fun c_58 => absurd c_58 (by decide))
          refine lv_iconst (v := 0) hx hb dL_holds_157 (by decide) ?_
          refine lv_iload hx hb dL_holds_158 (lv_at hl 3 rfl) ?_
          refine lv_iload hx hb dL_holds_160 (lv_at hl 4 rfl) ?_
          refine lv_icmp_ne (tgt := 169) hx hb dL_holds_162 (by decide) (fun c_59 => ?_) (fun c_59 => absurd c_59 (fun q9 => by have q8 := (nI_eq (by omega) (by omega)).mp q9; omega))
          refine lv_iconst (v := 0) hx hb dL_holds_169 (by decide) ?_
          refine lv_icmp_ne (tgt := 177) hx hb dL_holds_170 (by decide) (fun c_60 => absurd (by decide) c_60) (fun c_60 => ?_)
          exact jp H locs hP hD hS ls (lv_sub hl [0, 1, 2, 3, 4, 5, 6, 7, 8] rfl)
        · by_cases hTG : T i = G i
          · refine lv_if_ne (tgt := 107) hx hb dL_holds_86 (by decide) (fun c_61 => ?_) (fun c_61 => absurd c_61 (nI_ne0 (by omega) (by omega)))
            refine lv_aload_n hx hb dL_holds_107 rfl (lv_at hl 7 rfl) ?_
            refine lv_bipush (v := 7) hx hb dL_holds_108 (by decide) ?_
            refine lv_iload hx hb dL_holds_110 (lv_at hl 5 rfl) ?_
            refine lv_iconst (v := 0) hx hb dL_holds_112 (by decide) ?_
            refine lv_iconst (v := 0) hx hb dL_holds_113 (by decide) ?_
            refine cl_i (va_runS (As := [.ref (ad 0 0 0), .int (7 : Int32), .int (nI i), .int (0 : Int32), .int (0 : Int32)]) (rest := []) ⟨hx, hb, hml, hown, hts⟩ (cca l hlt D cy ad (B := _) (V := V) (V' := V) hB (what := (7 : Int32)) (a := (nI i)) (b := (0 : Int32)) (c := (0 : Int32)) (r := (1065353216 : Int32)) (hsv.trans (w2 hTG)) ((wc_7 V (nI i) (0 : Int32) (0 : Int32))) ((n15 (by decide))) H.size) (va_cwS 5 hts gL_holds_L_call rfl rfl rfl (by decide +kernel) ⟨Nat.le_of_ble_eq_true rfl, Nat.le_of_ble_eq_true rfl⟩) ⟨blU, preU hP hD (pmI _) hK hE hS hA⟩ rfl rfl hl.1 rfl (lv_room (Nat.le_of_ble_eq_true rfl)) dL_holds_114 ⟨(show (cs + 12) ≤ 1670 by omega), (show (sl + 72) ≤ 10020 by omega)⟩) hP hD (pmI _) hS hA (fun H locs hP hD hS => ?_)
            have hP : va_P D vwCl (wB cy ad V) H := vP_perm hP (pmI _).symm
            have hD : va_D A (wB cy ad V) := vD_perm hD (pmI _).symm
            refine lv_if_ne (tgt := 124) hx hb dL_holds_117 (by decide) (fun c_62 => ?_) (fun c_62 => absurd c_62 (by decide))
            refine lv_iconst (v := 0) hx hb dL_holds_124 (by decide) ?_
            refine lv_iload hx hb dL_holds_125 (lv_at hl 3 rfl) ?_
            refine lv_if_ne (tgt := 134) hx hb dL_holds_127 (by decide) (fun c_63 => ?_) (fun c_63 => absurd c_63 (nI_ne0 (by omega) (by omega)))
            refine lv_iconst (v := 0) hx hb dL_holds_134 (by decide) ?_
            refine lv_icmp_ne (tgt := 177) hx hb dL_holds_135 (by decide) (fun c_64 => absurd (by decide) c_64) (fun c_64 => ?_)
            refine lv_aload_n hx hb dL_holds_138 rfl (lv_at hl 7 rfl) ?_
            refine lv_bipush (v := 7) hx hb dL_holds_139 (by decide) ?_
            refine lv_iload hx hb dL_holds_141 (lv_at hl 5 rfl) ?_
            refine lv_iconst (v := 0) hx hb dL_holds_143 (by decide) ?_
            refine lv_iconst (v := 0) hx hb dL_holds_144 (by decide) ?_
            refine cl_i (va_runS (As := [.ref (ad 0 0 0), .int (7 : Int32), .int (nI i), .int (0 : Int32), .int (0 : Int32)]) (rest := []) ⟨hx, hb, hml, hown, hts⟩ (cca l hlt D cy ad (B := _) (V := V) (V' := V) hB (what := (7 : Int32)) (a := (nI i)) (b := (0 : Int32)) (c := (0 : Int32)) (r := (1065353216 : Int32)) (hsv.trans (w2 hTG)) ((wc_7 V (nI i) (0 : Int32) (0 : Int32))) ((n15 (by decide))) H.size) (va_cwS 5 hts gL_holds_L_call rfl rfl rfl (by decide +kernel) ⟨Nat.le_of_ble_eq_true rfl, Nat.le_of_ble_eq_true rfl⟩) ⟨blU, preU hP hD (pmI _) hK hE hS hA⟩ rfl rfl hl.1 rfl (lv_room (Nat.le_of_ble_eq_true rfl)) dL_holds_145 ⟨(show (cs + 15) ≤ 1670 by omega), (show (sl + 90) ≤ 10020 by omega)⟩) hP hD (pmI _) hS hA (fun H locs hP hD hS => ?_)
            have hP : va_P D vwCl (wB cy ad V) H := vP_perm hP (pmI _).symm
            have hD : va_D A (wB cy ad V) := vD_perm hD (pmI _).symm
            refine lv_ldc (v := (1065353216)) hx hb hown (hts _ (List.mem_of_getElem? (i := 2) rfl)) dL_holds_148 ?_
            refine lv_icmp_ne (tgt := 157) hx hb dL_holds_150 (by decide) (fun c_65 => absurd (by decide) c_65) (fun c_65 => ?_)
            refine lv_iconst (v := 1) hx hb dL_holds_153 (by decide) ?_
            refine lv_goto (tgt := 158) hx hb dL_holds_154 (by decide) ?_
            refine lv_iload hx hb dL_holds_158 (lv_at hl 3 rfl) ?_
            refine lv_iload hx hb dL_holds_160 (lv_at hl 4 rfl) ?_
            refine lv_icmp_ne (tgt := 169) hx hb dL_holds_162 (by decide) (fun c_66 => absurd (by rw [hTG]) c_66) (fun c_66 => ?_)
            refine lv_iconst (v := 1) hx hb dL_holds_165 (by decide) ?_
            refine lv_goto (tgt := 170) hx hb dL_holds_166 (by decide) ?_
            refine lv_icmp_ne (tgt := 177) hx hb dL_holds_170 (by decide) (fun c_67 => absurd (by decide) c_67) (fun c_67 => ?_)
            exact jp H locs hP hD hS ls (lv_sub hl [0, 1, 2, 3, 4, 5, 6, 7, 8] rfl)
          · obtain ⟨s0, s1⟩ := w3 (by omega) (by omega)
            obtain ⟨sv, hsv2⟩ : ∃ sv, r_X5_quotientBits (nI (T i)) (nI (G i)) = sv := ⟨_, rfl⟩
            rw [hsv2] at s0 s1
            refine lv_if_ne (tgt := 107) hx hb dL_holds_86 (by decide) (fun c_68 => ?_) (fun c_68 => absurd c_68 (nI_ne0 (by omega) (by omega)))
            refine lv_aload_n hx hb dL_holds_107 rfl (lv_at hl 7 rfl) ?_
            refine lv_bipush (v := 7) hx hb dL_holds_108 (by decide) ?_
            refine lv_iload hx hb dL_holds_110 (lv_at hl 5 rfl) ?_
            refine lv_iconst (v := 0) hx hb dL_holds_112 (by decide) ?_
            refine lv_iconst (v := 0) hx hb dL_holds_113 (by decide) ?_
            refine cl_i (va_runS (As := [.ref (ad 0 0 0), .int (7 : Int32), .int (nI i), .int (0 : Int32), .int (0 : Int32)]) (rest := []) ⟨hx, hb, hml, hown, hts⟩ (cca l hlt D cy ad (B := _) (V := V) (V' := V) hB (what := (7 : Int32)) (a := (nI i)) (b := (0 : Int32)) (c := (0 : Int32)) (r := sv) (hsv.trans hsv2) ((wc_7 V (nI i) (0 : Int32) (0 : Int32))) ((n15 (by decide))) H.size) (va_cwS 5 hts gL_holds_L_call rfl rfl rfl (by decide +kernel) ⟨Nat.le_of_ble_eq_true rfl, Nat.le_of_ble_eq_true rfl⟩) ⟨blU, preU hP hD (pmI _) hK hE hS hA⟩ rfl rfl hl.1 rfl (lv_room (Nat.le_of_ble_eq_true rfl)) dL_holds_114 ⟨(show (cs + 12) ≤ 1670 by omega), (show (sl + 72) ≤ 10020 by omega)⟩) hP hD (pmI _) hS hA (fun H locs hP hD hS => ?_)
            have hP : va_P D vwCl (wB cy ad V) H := vP_perm hP (pmI _).symm
            have hD : va_D A (wB cy ad V) := vD_perm hD (pmI _).symm
            refine lv_if_ne (tgt := 124) hx hb dL_holds_117 (by decide) (fun c_69 => ?_) (fun c_69 => absurd c_69 s0)
            refine lv_iconst (v := 0) hx hb dL_holds_124 (by decide) ?_
            refine lv_iload hx hb dL_holds_125 (lv_at hl 3 rfl) ?_
            refine lv_if_ne (tgt := 134) hx hb dL_holds_127 (by decide) (fun c_70 => ?_) (fun c_70 => absurd c_70 (nI_ne0 (by omega) (by omega)))
            refine lv_iconst (v := 0) hx hb dL_holds_134 (by decide) ?_
            refine lv_icmp_ne (tgt := 177) hx hb dL_holds_135 (by decide) (fun c_71 => absurd (by decide) c_71) (fun c_71 => ?_)
            refine lv_aload_n hx hb dL_holds_138 rfl (lv_at hl 7 rfl) ?_
            refine lv_bipush (v := 7) hx hb dL_holds_139 (by decide) ?_
            refine lv_iload hx hb dL_holds_141 (lv_at hl 5 rfl) ?_
            refine lv_iconst (v := 0) hx hb dL_holds_143 (by decide) ?_
            refine lv_iconst (v := 0) hx hb dL_holds_144 (by decide) ?_
            refine cl_i (va_runS (As := [.ref (ad 0 0 0), .int (7 : Int32), .int (nI i), .int (0 : Int32), .int (0 : Int32)]) (rest := []) ⟨hx, hb, hml, hown, hts⟩ (cca l hlt D cy ad (B := _) (V := V) (V' := V) hB (what := (7 : Int32)) (a := (nI i)) (b := (0 : Int32)) (c := (0 : Int32)) (r := sv) (hsv.trans hsv2) ((wc_7 V (nI i) (0 : Int32) (0 : Int32))) ((n15 (by decide))) H.size) (va_cwS 5 hts gL_holds_L_call rfl rfl rfl (by decide +kernel) ⟨Nat.le_of_ble_eq_true rfl, Nat.le_of_ble_eq_true rfl⟩) ⟨blU, preU hP hD (pmI _) hK hE hS hA⟩ rfl rfl hl.1 rfl (lv_room (Nat.le_of_ble_eq_true rfl)) dL_holds_145 ⟨(show (cs + 15) ≤ 1670 by omega), (show (sl + 90) ≤ 10020 by omega)⟩) hP hD (pmI _) hS hA (fun H locs hP hD hS => ?_)
            have hP : va_P D vwCl (wB cy ad V) H := vP_perm hP (pmI _).symm
            have hD : va_D A (wB cy ad V) := vD_perm hD (pmI _).symm
            refine lv_ldc (v := (1065353216)) hx hb hown (hts _ (List.mem_of_getElem? (i := 2) rfl)) dL_holds_148 ?_
            refine lv_icmp_ne (tgt := 157) hx hb dL_holds_150 (by decide) (fun c_72 => ?_) (fun c_72 => absurd c_72 s1)
            refine lv_iconst (v := 0) hx hb dL_holds_157 (by decide) ?_
            refine lv_iload hx hb dL_holds_158 (lv_at hl 3 rfl) ?_
            refine lv_iload hx hb dL_holds_160 (lv_at hl 4 rfl) ?_
            refine lv_icmp_ne (tgt := 169) hx hb dL_holds_162 (by decide) (fun c_73 => ?_) (fun c_73 => absurd c_73 (fun q9 => hTG ((nI_eq (by omega) (by omega)).mp q9)))
            refine lv_iconst (v := 0) hx hb dL_holds_169 (by decide) ?_
            refine lv_icmp_ne (tgt := 177) hx hb dL_holds_170 (by decide) (fun c_74 => absurd (by decide) c_74) (fun c_74 => ?_)
            exact jp H locs hP hD hS ls (lv_sub hl [0, 1, 2, 3, 4, 5, 6, 7, 8] rfl)
  refine lv_iconst (v := 0) hx hb dL_holds_0 (by decide) ?_
  refine lv_istore_n (lv' := [(2, .int (0 : Int32)), (0, .ref (ad 0 0 0)), (1, .int x)]) hx hb dL_holds_1 rfl hl (by decide) rfl (fun ls hl => ?_)
  refine lv_iconst (v := 0) hx hb dL_holds_2 (by decide) ?_
  refine lv_istore_n (lv' := [(3, .int (0 : Int32)), (2, .int (0 : Int32)), (0, .ref (ad 0 0 0)), (1, .int x)]) hx hb dL_holds_3 rfl hl (by decide) rfl (fun ls hl => ?_)
  refine lv_iconst (v := 1) hx hb dL_holds_4 (by decide) ?_
  refine lv_istore (lv' := [(4, .int (1 : Int32)), (3, .int (0 : Int32)), (2, .int (0 : Int32)), (0, .ref (ad 0 0 0)), (1, .int x)]) hx hb dL_holds_5 hl (by decide) rfl (fun ls hl => ?_)
  refine lv_iconst (v := 0) hx hb dL_holds_7 (by decide) ?_
  refine lv_istore (lv' := [(5, .int (0 : Int32)), (4, .int (1 : Int32)), (3, .int (0 : Int32)), (2, .int (0 : Int32)), (0, .ref (ad 0 0 0)), (1, .int x)]) hx hb dL_holds_8 hl (by decide) rfl (fun ls hl => ?_)
  exact lp1 26 0 0 0 (by omega) (by omega) (by omega) H locs hP hD hS ls (lv_sub hl [0, 1, 2, 3, 4, 5] rfl)
