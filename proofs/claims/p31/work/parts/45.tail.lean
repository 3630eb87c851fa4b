/-! ===== the law's facts: the text played and undone ===== -/
theorem SInv.n5 {N : Nat} {v : SV} (h : SInv N v) : v.1 5 0 = nI N := by
  obtain ⟨z, m, q, hs, ⟨G, T, R, s, L, h1, h2, h3, h4⟩, hD⟩ := h
  exact h3
theorem SInv.pen {N : Nat} {v : SV} (h : SInv N v) : ∃ q, q ≤ 9 ∧ v.1 0 2 = nI q := by
  obtain ⟨z, m, q, ⟨_, _, q1, q2⟩, _⟩ := h
  exact ⟨q, q1, q2⟩
theorem tail_n {V : BV} (ht : Tok V.1) (hp : r_X4_isPlayable V.1 = 0) : r_X5_wouldBring V = -99999 ∧ (w_X5_wouldBring V).2.1 = V.2.1 ∧ r_L_call (w_X5_wouldBring V) 11 0 0 0 = -9999003 ∧ (w_L_call (w_X5_wouldBring V) 11 0 0 0).2.1 = V.2.1 := by
  have e : w_X5_wouldBring V = (w_X4_isPlayable V.1, V.2) := by
    unfold w_X5_wouldBring
    rw [if_pos hp]
  have hp3 : r_X4_isPlayable (w_X4_isPlayable V.1) = 0 := (again_p ht).trans hp
  rw [e]
  refine ⟨?_, rfl, ?_, ?_⟩
  · unfold r_X5_wouldBring
    rw [if_pos hp]
  · rw [rc_11]
    have e2 : o_X5_play (w_X4_isPlayable V.1, V.2) = (-9999003, 0) := by
      unfold o_X5_play
      exact if_pos hp3
    unfold r_L_tryPlay
    rw [e2]
    exact if_neg (by decide)
  · rw [wc_11]
    unfold w_X5_play
    rw [if_pos hp3]
theorem tail_p {B : Nat} {V : BV} (hB : BInv B V) (hb : B + 300 < 2 ^ 30) (hp : ¬ r_X4_isPlayable V.1 = 0) : ∃ V3 V4 V5 V6 : BV, ∃ br pl : Int32, w_X5_wouldBring V = V3 ∧ r_X5_wouldBring V = br ∧ ¬ br = -99999 ∧ r_L_call V3 1 2 0 0 = V.2.1.1 7 0 ∧ r_L_call V3 11 0 0 0 = pl ∧ w_L_call V3 11 0 0 0 = V4 ∧ ¬ pl < 0 ∧
    r_L_call V4 1 2 0 0 = V.2.1.1 7 0 + br ∧ r_L_call V4 1 0 0 0 = V.2.1.1 5 0 + r_X5_branches V4 ∧ w_X5_branches V4 = V5 ∧ r_L_call V5 1 1 0 0 = V.2.1.1 6 0 + pl ∧ ¬ r_L_call V5 12 0 0 0 < 0 ∧ w_L_call V5 12 0 0 0 = V6 ∧ V6.2.1 = V.2.1 := by
  obtain ⟨hr, n, hn, e4, es, hok, hr2, e42, hall⟩ := play_of hB.1 hp
  have ht1 : Tok (w_X4_isPlayable V.1) := read_tok hB.1
  have hp3 : ¬ r_X4_isPlayable (w_X4_isPlayable V.1) = 0 := by rw [again_p hB.1]; exact hp
  obtain ⟨hr', n', hn', e4', es', hok', hr2', e42', hall'⟩ := play_of ht1 hp3
  have enn : n' = n := (nI_eq (by omega) (by omega)).mp (e4'.symm.trans e42)
  have hst := hB.2.1
  obtain ⟨N, hN, hs⟩ := hst
  have hs1 := hs.goes hok (by omega) n (by omega)
  obtain ⟨q, q1, q2⟩ := hs.pen
  obtain ⟨a, b, hab, p1, p2⟩ := goN_pt (w_X4_isPlayable V.1) V.2.1 q2 n
  have ev : w_X3_goAll V.2.1 (w_X4_isPlayable V.1) = goN (w_X4_isPlayable V.1) n V.2.1 := by
    unfold w_X3_goAll
    rw [es]
  have ev2 := hall V.2.1
  rw [ev] at ev2
  have n5 := hs1.n5
  have n0 := hs.n5
  generalize goN (w_X4_isPlayable V.1) n V.2.1 = v1 at hs1 p1 p2 ev ev2 n5
  have e3 : w_X5_wouldBring V = ((w_X4_isPlayable V.1), V.2.1, v1, V.2.2.2.1, V.2.2.2.2.1, V.2.2.2.2.2.1, V.2.2.2.2.2.2) := by
    unfold w_X5_wouldBring
    rw [if_neg hp, ev]
  have er3 : r_X5_wouldBring V = v1.1 7 0 - V.2.1.1 7 0 := by
    unfold r_X5_wouldBring
    rw [if_neg hp, ev]
  have ep : v1.1 7 0 - V.2.1.1 7 0 = nI a - nI (q * b) := by
    rw [p2, Int32.sub_eq_add_neg, Int32.sub_eq_add_neg, Int32.add_assoc, Int32.add_assoc, Int32.add_comm, Int32.add_assoc, Int32.add_assoc, Int32.add_comm (-V.2.1.1 7 0), Int32.add_right_neg, Int32.add_zero, ← Int32.sub_eq_add_neg]
  have hqb : q * b ≤ 9 * 300 := Nat.mul_le_mul q1 (by omega)
  have ht4 : Tok (w_X4_isPlayable (w_X4_isPlayable V.1)) := read_tok ht1
  have e4w : w_X5_play ((w_X4_isPlayable V.1), V.2.1, v1, V.2.2.2.1, V.2.2.2.2.1, V.2.2.2.2.2.1, V.2.2.2.2.2.2) = ((w_X4_isPlayable (w_X4_isPlayable V.1)), v1, v1, V.2.2.2.1, V.2.2.2.2.1, hrem V.2.2.2.2.2.1 V.2.1, V.2.2.2.2.2.2) := by
    unfold w_X5_play
    rw [if_neg hp3]
    show (_, w_X3_goAll V.2.1 (w_X4_isPlayable (w_X4_isPlayable V.1)), _, _, _, _, _) = _
    rw [ev2]
  have e4r : o_X5_play ((w_X4_isPlayable V.1), V.2.1, v1, V.2.2.2.1, V.2.2.2.2.1, V.2.2.2.2.2.1, V.2.2.2.2.2.2) = (0, v1.1 6 0 - V.2.1.1 6 0) := by
    unfold o_X5_play
    rw [if_neg hp3]
    show ((0 : Int32), (w_X3_goAll V.2.1 (w_X4_isPlayable (w_X4_isPlayable V.1))).1 6 0 - V.2.1.1 6 0) = _
    rw [ev2]
  have epl : v1.1 6 0 - V.2.1.1 6 0 = nI a := by
    rw [p1]
    exact i_s4 _ _
  have hh := hB.ho
  have hc := hrem_cnt V.2.1 hh
  have hc0 : ¬ (hrem V.2.2.2.2.2.1 V.2.1).2.1 = 0 := by
    rw [hc]
    split <;> omega
  have hc14 : (hrem V.2.2.2.2.2.1 V.2.1).2.1 ≤ 14 := by
    rw [hc]
    have := hh.2
    split <;> omega
  refine ⟨_, _, _, _, _, nI a, e3, er3, ?_, ?_, ?_, (wc_11 _ _ _ _).trans e4w, ?_, ?_, ?_, rfl, ?_, ?_, rfl, ?_⟩
  · rw [ep]
    intro h9
    have h8 := congrArg Int32.toInt h9
    rw [pk_sub_toInt (by omega) (by omega), show (-99999 : Int32).toInt = -99999 from rfl] at h8
    omega
  · exact fb_a2 _ 0 0
  · rw [rc_11]
    unfold r_L_tryPlay
    rw [e4r, ← epl]
    exact if_pos rfl
  · exact nI_pos (by omega)
  · rw [fb_a2]
    exact (i_s3 _ _).symm
  · rw [fb_a0]
    have e5 : r_X5_branches ((w_X4_isPlayable (w_X4_isPlayable V.1)), v1, v1, V.2.2.2.1, V.2.2.2.2.1, hrem V.2.2.2.2.2.1 V.2.1, V.2.2.2.2.2.2) = nI n := by
      unfold r_X5_branches
      rw [if_pos hr2', ← enn]
      exact e42'
    rw [e5]
    show v1.1 5 0 = V.2.1.1 5 0 + nI n
    rw [n5, n0, nI_add]
  · rw [fb_a1]
    show v1.1 6 0 = V.2.1.1 6 0 + nI a
    exact p1
  · rw [rc_12]
    unfold r_L_tryUndo
    rw [(undo_1 (V := w_X5_branches ((w_X4_isPlayable (w_X4_isPlayable V.1)), v1, v1, V.2.2.2.1, V.2.2.2.2.1, hrem V.2.2.2.2.2.1 V.2.1, V.2.2.2.2.2.2)) hc0).2]
    show ¬ nI ((hrem V.2.2.2.2.2.1 V.2.1).2.1 - 1) < 0
    exact nI_pos (by omega)
  · rw [wc_12, (undo_1 (V := w_X5_branches ((w_X4_isPlayable (w_X4_isPlayable V.1)), v1, v1, V.2.2.2.1, V.2.2.2.2.1, hrem V.2.2.2.2.2.1 V.2.1, V.2.2.2.2.2.2)) hc0).1]
    show htop (hrem V.2.2.2.2.2.1 V.2.1) = V.2.1
    exact hrem_0 V.2.1 hh
theorem un_r {V : BV} (h0 : ¬ V.2.2.2.2.2.1.2.1 = 0) (h14 : V.2.2.2.2.2.1.2.1 ≤ 14) (a b c : Int32) : ∃ k, k < 2 ^ 31 ∧ r_L_call V 12 a b c = nI k := by
  refine ⟨V.2.2.2.2.2.1.2.1 - 1, by omega, ?_⟩
  rw [rc_12]
  unfold r_L_tryUndo
  rw [(undo_1 h0).2]
  exact if_pos rfl
