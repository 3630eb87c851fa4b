/-! ===== the law's facts: what the calls of holds answer ===== -/
theorem pl_r (V : BV) {p b v : Int32} (c : Int32) (h : o_X5_place V p b = (0, v)) : r_L_call V 4 p b c = v := by
  rw [rc_4]
  unfold r_L_tryPlace
  rw [h]
  exact if_pos rfl
theorem fb_p0 (V : BV) {p : Nat} (hp : p < 26) (c : Int32) : r_L_call V 4 (nI p) 0 c = V.2.1.1 2 p := by
  refine pl_r V c ?_
  unfold o_X5_place
  rw [if_pos (chkP_ok hp), nI_clamp (by omega)]
  exact if_pos rfl
theorem fb_p1 (V : BV) {p : Nat} (hp : p < 26) (c : Int32) : r_L_call V 4 (nI p) 1 c = V.2.1.1 3 p := by
  refine pl_r V c ?_
  unfold o_X5_place
  rw [if_pos (chkP_ok hp), nI_clamp (by omega), if_neg (by decide)]
  exact if_pos rfl
theorem fb_p2 (V : BV) {p : Nat} (hp : p < 26) (c : Int32) : r_L_call V 4 (nI p) 2 c = V.2.1.1 4 p := by
  refine pl_r V c ?_
  unfold o_X5_place
  rw [if_pos (chkP_ok hp), nI_clamp (by omega), if_neg (by decide), if_neg (by decide)]
  exact if_pos rfl
theorem guess01 (v : SV) (pl : Int32) : r_X3_guessFor v pl = 0 ∨ r_X3_guessFor v pl = 1 := by
  unfold r_X3_guessFor r_X3_deskSays
  repeat' split
  all_goals first
    | exact Or.inl rfl
    | exact Or.inr rfl
theorem fb_p4 (V : BV) {p : Nat} (hp : p < 26) (c : Int32) : r_L_call V 4 (nI p) 4 c = r_X3_guessFor V.2.1 (nI p) := by
  refine pl_r V c ?_
  unfold o_X5_place
  rw [if_pos (chkP_ok hp), if_neg (by decide), if_neg (by decide), if_neg (by decide), if_neg (by decide), if_pos rfl]
  rcases guess01 V.2.1 (nI p) with h | h
  · rw [h, if_pos rfl]
  · rw [h, if_neg (by decide)]
theorem fb_sh (V : BV) {p : Nat} (hp : p < 26) (b c : Int32) : r_L_call V 7 (nI p) b c = if V.2.1.1 2 p ≤ 0 then (-99999 : Int32) else r_X5_quotientBits (V.2.1.1 3 p) (V.2.1.1 2 p) := by
  rw [rc_7]
  unfold r_L_tryShare o_X5_share
  rw [if_pos (chkP_ok hp), nI_clamp (by omega)]
  exact if_pos rfl
theorem fb_a0 (V : BV) (b c : Int32) : r_L_call V 1 0 b c = V.2.1.1 5 0 := by
  rw [rc_1]
  rfl
theorem fb_a1 (V : BV) (b c : Int32) : r_L_call V 1 1 b c = V.2.1.1 6 0 := by
  rw [rc_1]
  rfl
theorem fb_a2 (V : BV) (b c : Int32) : r_L_call V 1 2 b c = V.2.1.1 7 0 := by
  rw [rc_1]
  rfl
theorem fb_a3 (V : BV) (b c : Int32) : r_L_call V 1 3 b c = V.2.1.2.1 6 0 := by
  rw [rc_1]
  rfl
theorem fb_a4 (V : BV) (b c : Int32) : r_L_call V 1 4 b c = V.2.1.2.2 6 0 := by
  rw [rc_1]
  rfl
theorem fb_a5 (V : BV) (b c : Int32) : r_L_call V 1 5 b c = V.2.1.1 8 0 := by
  rw [rc_1]
  rfl
theorem fb_a6 (V : BV) (b c : Int32) : r_L_call V 1 6 b c = V.2.1.1 9 0 := by
  rw [rc_1]
  rfl
theorem fb_a9 (V : BV) (b c : Int32) : r_L_call V 1 9 b c = V.2.1.1 0 2 := by
  rw [rc_1]
  rfl
theorem nt_r (V : BV) {d i b v : Int32} (h : o_X5_note V d i b = (0, v)) : r_L_call V 3 d i b = v := by
  rw [rc_3]
  unfold r_L_tryNote
  rw [h]
  exact if_pos rfl
theorem fb_n02 (V : BV) {z i : Nat} (hz : V.2.1.1 0 0 = nI z) (z1 : 2 ≤ z) (z2 : z ≤ 6) (hi : i < 2 ^ z) (h31 : i < 2 ^ 31) : r_L_call V 3 0 (nI i) 2 = V.2.1.2.1 3 i := by
  refine nt_r V ?_
  unfold o_X5_note
  rw [if_pos (chkD_ok (Or.inl rfl)), if_pos (chkN_ok hz z1 z2 hi), if_pos rfl, nI_clamp h31, if_neg (by decide), if_neg (by decide)]
  exact if_pos rfl
theorem fb_n03 (V : BV) {z i : Nat} (hz : V.2.1.1 0 0 = nI z) (z1 : 2 ≤ z) (z2 : z ≤ 6) (hi : i < 2 ^ z) (h31 : i < 2 ^ 31) : r_L_call V 3 0 (nI i) 3 = V.2.1.2.1 4 i := by
  refine nt_r V ?_
  unfold o_X5_note
  rw [if_pos (chkD_ok (Or.inl rfl)), if_pos (chkN_ok hz z1 z2 hi), if_pos rfl, nI_clamp h31, if_neg (by decide), if_neg (by decide), if_neg (by decide)]
  exact if_pos rfl
theorem fb_n12 (V : BV) {z i : Nat} (hz : V.2.1.1 0 0 = nI z) (z1 : 2 ≤ z) (z2 : z ≤ 6) (hi : i < 2 ^ z) (h31 : i < 2 ^ 31) : r_L_call V 3 1 (nI i) 2 = V.2.1.2.2 3 i := by
  refine nt_r V ?_
  unfold o_X5_note
  rw [if_pos (chkD_ok (Or.inr rfl)), if_pos (chkN_ok hz z1 z2 hi), if_neg (by decide), nI_clamp h31, if_neg (by decide), if_neg (by decide)]
  exact if_pos rfl
theorem fb_n13 (V : BV) {z i : Nat} (hz : V.2.1.1 0 0 = nI z) (z1 : 2 ≤ z) (z2 : z ≤ 6) (hi : i < 2 ^ z) (h31 : i < 2 ^ 31) : r_L_call V 3 1 (nI i) 3 = V.2.1.2.2 4 i := by
  refine nt_r V ?_
  unfold o_X5_note
  rw [if_pos (chkD_ok (Or.inr rfl)), if_pos (chkN_ok hz z1 z2 hi), if_neg (by decide), nI_clamp h31, if_neg (by decide), if_neg (by decide), if_neg (by decide)]
  exact if_pos rfl
theorem dk_r (V : BV) {d b v : Int32} (c : Int32) (h : o_X5_desk V d b = (0, v)) : r_L_call V 2 d b c = v := by
  rw [rc_2]
  unfold r_L_tryDesk
  rw [h]
  exact if_pos rfl
theorem fb_d03 (V : BV) (c : Int32) : r_L_call V 2 0 3 c = V.2.1.2.1 7 0 := by
  refine dk_r V c ?_
  unfold o_X5_desk
  rw [if_pos (chkD_ok (Or.inl rfl)), if_pos rfl, if_neg (by decide), if_neg (by decide), if_neg (by decide)]
  exact if_pos rfl
theorem fb_d04 (V : BV) (c : Int32) : r_L_call V 2 0 4 c = r_X0_countUsed V.2.1.2.1 := by
  refine dk_r V c ?_
  unfold o_X5_desk
  rw [if_pos (chkD_ok (Or.inl rfl)), if_pos rfl, if_neg (by decide), if_neg (by decide), if_neg (by decide), if_neg (by decide)]
  exact if_pos rfl
theorem fb_d13 (V : BV) (c : Int32) : r_L_call V 2 1 3 c = V.2.1.2.2 7 0 := by
  refine dk_r V c ?_
  unfold o_X5_desk
  rw [if_pos (chkD_ok (Or.inr rfl)), if_neg (by decide), if_neg (by decide), if_neg (by decide), if_neg (by decide)]
  exact if_pos rfl
theorem fb_d14 (V : BV) (c : Int32) : r_L_call V 2 1 4 c = r_X0_countUsed V.2.1.2.2 := by
  refine dk_r V c ?_
  unfold o_X5_desk
  rw [if_pos (chkD_ok (Or.inr rfl)), if_neg (by decide), if_neg (by decide), if_neg (by decide), if_neg (by decide), if_neg (by decide)]
  exact if_pos rfl
theorem cuf_c {f : Nat → Int32} {U : Nat → Nat} : ∀ n, (∀ i, i < n → f i = nI (U i) ∧ U i < 2 ^ 31) → cuf f n = nI (cN U n)
  | 0, _ => nI_0.symm
  | n + 1, h => by
    have ih := cuf_c n (fun i hi => h i (by omega))
    obtain ⟨h1, h2⟩ := h n (by omega)
    have e1 : cuf f (n + 1) = if f n ≤ 0 then cuf f n else cuf f n + 1 := rfl
    have e2 : cN U (n + 1) = cN U n + (if U n = 0 then 0 else 1) := rfl
    rw [e1, e2, ih, h1]
    by_cases h0 : U n = 0
    · rw [h0, if_pos (by rw [nI_0]; exact Int32.le_refl _), if_pos rfl]
      rfl
    · rw [if_neg (nI_nle (by omega) h2), if_neg h0, nI_1]
/-- the notes of both desks -/
def DkF (V : BV) (z N : Nat) (UU FF : Nat → Nat → Nat) (CC : Nat → Nat) (d : Nat) : Prop :=
  (∀ i, i < 2 ^ z → r_L_call V 3 (nI d) (nI i) 2 = nI (UU d i) ∧ r_L_call V 3 (nI d) (nI i) 3 = nI (FF d i) ∧ UU d i ≤ N) ∧ r_L_call V 2 (nI d) 3 0 = nI (sN (FF d) (2 ^ z)) ∧ r_L_call V 2 (nI d) 4 0 = nI (cN (UU d) (2 ^ z)) ∧ sN (UU d) (2 ^ z) = N ∧ r_L_call V 1 (3 + nI d) 0 0 = nI (CC d) ∧ CC d + cN (UU d) (2 ^ z) ≤ N
theorem dk_f {V : BV} {z N : Nat} (hz : V.2.1.1 0 0 = nI z) (z1 : 2 ≤ z) (z2 : z ≤ 6) (hN : N < 2 ^ 30) (h1 : DInv z N V.2.1.2.1) (h2 : DInv z N V.2.1.2.2) : ∃ (UU FF : Nat → Nat → Nat) (CC : Nat → Nat), ∀ d, d < 2 → DkF V z N UU FF CC d := by
  obtain ⟨U1, F1, c1, a1, a2, a3, a4, a5, a6⟩ := h1
  obtain ⟨U2, F2, c2, b1, b2, b3, b4, b5, b6⟩ := h2
  have h64 : 2 ^ z ≤ 64 := Nat.le_trans (Nat.pow_le_pow_right (by decide) z2) (by decide)
  have uN : ∀ (U : Nat → Nat), sN U 64 = N → ∀ i, i < 64 → U i ≤ N := fun U hU i hi => by rw [← hU]; exact sN_mem 64 hi
  refine ⟨fun d => if d = 0 then U1 else U2, fun d => if d = 0 then F1 else F2, fun d => if d = 0 then c1 else c2, fun d hd => ?_⟩
  have hd2 : d = 0 ∨ d = 1 := by omega
  rcases hd2 with rfl | rfl
  · refine ⟨fun i hi => ⟨?_, ?_, uN U1 a3 i (by omega)⟩, ?_, ?_, ?_, ?_, ?_⟩
    · exact (fb_n02 V hz z1 z2 hi (by omega)).trans (a1 i (by omega)).1
    · exact (fb_n03 V hz z1 z2 hi (by omega)).trans (a1 i (by omega)).2
    · show r_L_call V 2 0 3 0 = nI (sN F1 (2 ^ z))
      rw [fb_d03, a4, sN_tail (f := F1) 64 h64 (fun j p q => (a2 j p q).2)]
    · show r_L_call V 2 0 4 0 = nI (cN U1 (2 ^ z))
      rw [fb_d04, ← cN_tail (f := U1) 64 h64 (fun j p q => (a2 j p q).1)]
      exact cuf_c 64 (fun i hi => ⟨(a1 i hi).1, by have := uN U1 a3 i hi; omega⟩)
    · show sN U1 (2 ^ z) = N
      rw [← sN_tail (f := U1) 64 h64 (fun j p q => (a2 j p q).1)]
      exact a3
    · exact (fb_a3 V 0 0).trans a5
    · show c1 + cN U1 (2 ^ z) ≤ N
      rw [← cN_tail (f := U1) 64 h64 (fun j p q => (a2 j p q).1)]
      exact a6
  · refine ⟨fun i hi => ⟨?_, ?_, uN U2 b3 i (by omega)⟩, ?_, ?_, ?_, ?_, ?_⟩
    · exact (fb_n12 V hz z1 z2 hi (by omega)).trans (b1 i (by omega)).1
    · exact (fb_n13 V hz z1 z2 hi (by omega)).trans (b1 i (by omega)).2
    · show r_L_call V 2 1 3 0 = nI (sN F2 (2 ^ z))
      rw [fb_d13, b4, sN_tail (f := F2) 64 h64 (fun j p q => (b2 j p q).2)]
    · show r_L_call V 2 1 4 0 = nI (cN U2 (2 ^ z))
      rw [fb_d14, ← cN_tail (f := U2) 64 h64 (fun j p q => (b2 j p q).1)]
      exact cuf_c 64 (fun i hi => ⟨(b1 i hi).1, by have := uN U2 b3 i hi; omega⟩)
    · show sN U2 (2 ^ z) = N
      rw [← sN_tail (f := U2) 64 h64 (fun j p q => (b2 j p q).1)]
      exact b3
    · exact (fb_a4 V 0 0).trans b5
    · show c2 + cN U2 (2 ^ z) ≤ N
      rw [← cN_tail (f := U2) 64 h64 (fun j p q => (b2 j p q).1)]
      exact b6
/-! how long a guess holds -/
theorem hd_of (v : SV) (pl g tk : Int32) (htk : tk = if g = 0 then (1 : Int32) else (0 : Int32)) : ∀ n i, i + n = 98 → (∀ j, j < i + 1 → r_X3_guessFor (goT v pl tk j) pl = g) → ∃ h, (hdN pl g n (i + 1) (goT v pl tk i)).1 = nI h ∧ 1 ≤ h ∧ h ≤ 99 ∧ (∀ j, j < h → r_X3_guessFor (goT v pl tk j) pl = g) ∧ (h ≤ 98 → ¬ r_X3_guessFor (goT v pl tk h) pl = g)
  | 0, i, hi, hj => ⟨99, rfl, by omega, by omega, fun j q => hj j (by omega), fun q => by omega⟩
  | n + 1, i, hi, hj => by
    have e : hdN pl g (n + 1) (i + 1) (goT v pl tk i) = if r_X3_guessFor (w_X3_go (goT v pl tk i) pl (if g = 0 then (1 : Int32) else (0 : Int32))) pl = g then hdN pl g n (i + 1 + 1) (w_X3_go (goT v pl tk i) pl (if g = 0 then (1 : Int32) else (0 : Int32))) else (nI (i + 1), w_X3_go (goT v pl tk i) pl (if g = 0 then (1 : Int32) else (0 : Int32))) := rfl
    have e2 : w_X3_go (goT v pl tk i) pl tk = goT v pl tk (i + 1) := rfl
    rw [e, ← htk, e2]
    by_cases hc : r_X3_guessFor (goT v pl tk (i + 1)) pl = g
    · rw [if_pos hc]
      refine hd_of v pl g tk htk n (i + 1) (by omega) (fun j q => ?_)
      by_cases hji : j = i + 1
      · rw [hji]
        exact hc
      · exact hj j (by omega)
    · rw [if_neg hc]
      exact ⟨i + 1, rfl, by omega, by omega, fun j q => hj j q, fun _ => hc⟩
theorem hd_f (V : BV) {p : Nat} (hp : p < 26) {gv tk : Int32} (hg : r_X3_guessFor V.2.1 (nI p) = gv) (htk : tk = if gv = 0 then (1 : Int32) else (0 : Int32)) (b c : Int32) : ∃ h, r_L_call V 16 (nI p) b c = nI h ∧ 1 ≤ h ∧ h ≤ 99 ∧ (∀ j, j < h → r_X3_guessFor (goT V.2.1 (nI p) tk j) (nI p) = gv) ∧ (h ≤ 98 → ¬ r_X3_guessFor (goT V.2.1 (nI p) tk h) (nI p) = gv) := by
  obtain ⟨h, h1, h2⟩ := hd_of V.2.1 (nI p) gv tk htk 98 0 (by omega) (fun j q => by rw [show j = 0 by omega]; exact hg)
  refine ⟨h, ?_, h2⟩
  rw [rc_16]
  unfold r_L_tryHolds o_X5_holds hdR
  rw [if_pos (chkP_ok hp), hg]
  rw [if_pos rfl]
  exact h1
theorem go_wrong {V : BV} {p : Nat} (hp : p < 26) {gv tk : Int32} (hg : r_X3_guessFor V.2.1 (nI p) = gv) (htk : tk = if gv = 0 then (1 : Int32) else (0 : Int32)) : r_L_tryGo V (nI p) tk = 0 := by
  have e : r_X3_go V.2.1 (nI p) tk = 0 := by
    have e1 : (if (2 : Int32) ≤ ((V.2.1.1 1) (nI p).toNatClampNeg) then (r_X3_deskSays V.2.1 (1 : Int32) (nI p)) else (r_X3_deskSays V.2.1 (0 : Int32) (nI p))) = gv := by
      rw [← hg]
      unfold r_X3_guessFor
      by_cases hc : (2 : Int32) ≤ ((V.2.1.1 1) (nI p).toNatClampNeg)
      · rw [if_pos hc, if_pos hc]
      · rw [if_neg hc, if_neg hc]
    unfold r_X3_go
    rw [e1, htk]
    rcases guess01 V.2.1 (nI p) with h | h
    · rw [← hg, h]
      decide
    · rw [← hg, h]
      decide
  unfold r_L_tryGo o_X5_branch
  rw [if_pos (chkP_ok hp), e]
  rfl
/-! what playing changes -/
theorem go_pt (v : SV) (pl tk : Int32) : ((w_X3_go v pl tk).1 6 0 = v.1 6 0 ∧ (w_X3_go v pl tk).1 7 0 = v.1 7 0 - v.1 0 2) ∨ ((w_X3_go v pl tk).1 6 0 = v.1 6 0 + 1 ∧ (w_X3_go v pl tk).1 7 0 = v.1 7 0 + 1) := by
  have h1 : ∀ gs : Int32, ((w_X3_countGuess v pl tk gs).1 6 0 = v.1 6 0 ∧ (w_X3_countGuess v pl tk gs).1 7 0 = v.1 7 0 - v.1 0 2) ∨ ((w_X3_countGuess v pl tk gs).1 6 0 = v.1 6 0 + 1 ∧ (w_X3_countGuess v pl tk gs).1 7 0 = v.1 7 0 + 1) := by
    intro gs
    have e6 : (w_X3_countGuess v pl tk gs).1 6 0 = if gs = 0 then v.1 6 0 else v.1 6 0 + 1 := rfl
    have e7 : (w_X3_countGuess v pl tk gs).1 7 0 = if gs = 0 then v.1 7 0 - v.1 0 2 else v.1 7 0 + 1 := rfl
    rw [e6, e7]
    by_cases hg : gs = 0
    · rw [if_pos hg, if_pos hg]
      exact Or.inl ⟨rfl, rfl⟩
    · rw [if_neg hg, if_neg hg]
      exact Or.inr ⟨rfl, rfl⟩
  show ((w_go1 v pl tk).1 6 0 = v.1 6 0 ∧ (w_go1 v pl tk).1 7 0 = v.1 7 0 - v.1 0 2) ∨ ((w_go1 v pl tk).1 6 0 = v.1 6 0 + 1 ∧ (w_go1 v pl tk).1 7 0 = v.1 7 0 + 1)
  unfold w_go1
  split
  · exact h1 _
  · exact h1 _
theorem i_s5 (a b c : Int32) : a + b - c + 1 = a + (b + 1) - c := by
  rw [i_s1, Int32.add_assoc]
theorem goN_pt (x : RV) (v : SV) {q : Nat} (hq : v.1 0 2 = nI q) : ∀ n, ∃ a b, a + b = n ∧ (goN x n v).1 6 0 = v.1 6 0 + nI a ∧ (goN x n v).1 7 0 = v.1 7 0 + nI a - nI (q * b)
  | 0 => ⟨0, 0, rfl, by rw [nI_0, Int32.add_zero]; rfl, by rw [Nat.mul_zero, nI_0, Int32.add_zero, Int32.sub_zero]; rfl⟩
  | n + 1 => by
    obtain ⟨a, b, h1, h2, h3⟩ := goN_pt x v hq n
    have e : goN x (n + 1) v = w_X3_go (goN x n v) (x 1 n / 2) (if (x 1 n - x 1 n / 2 * 2) = 1 then 1 else 0) := rfl
    have hq2 : (goN x n v).1 0 2 = nI q := by rw [goN_set]; exact hq
    rw [e]
    rcases go_pt (goN x n v) (x 1 n / 2) (if (x 1 n - x 1 n / 2 * 2) = 1 then 1 else 0) with ⟨g1, g2⟩ | ⟨g1, g2⟩
    · refine ⟨a, b + 1, by omega, g1.trans h2, ?_⟩
      rw [g2, h3, hq2, i_s2, nI_add, Nat.mul_add, Nat.mul_one]
    · refine ⟨a + 1, b, by omega, ?_, ?_⟩
      · rw [g1, h2, Int32.add_assoc, nI_1]
      · rw [g2, h3, i_s5, nI_1]
