/-! ===== the law's facts: a text that is read again; what is undone ===== -/
def RS (y u : RV) : Prop := y 3 0 = u 3 0 ∧ y 4 0 = u 4 0 ∧ y 5 0 = u 5 0 ∧ y 7 0 = u 7 0 ∧ (y 7 0 = 2 → y 6 0 = u 6 0) ∧ (∀ j, j < (y 5 0).toNatClampNeg → y 2 j = u 2 j) ∧ ((y 4 0).toNatClampNeg ≤ 300 → ∀ j, j < (y 4 0).toNatClampNeg → y 1 j = u 1 j)
theorem RS_sign1 {y u : RV} (h : RS y u) {k : Nat} (hk : y 4 0 = nI k) (hk2 : k ≤ 524880) (h6 : y 6 0 = u 6 0) (b : Int32) :
    RS (mkT (y 0) (if (300 : Int32) ≤ (y 4 0) then (y 1) else (upd (y 1) (y 4 0).toNatClampNeg (((2 : Int32) * (y 6 0)) + b))) (y 2) (y 3 0) ((y 4 0) + (1 : Int32)) (y 5 0) (y 6 0) (1 : Int32))
      (mkT (u 0) (if (300 : Int32) ≤ (u 4 0) then (u 1) else (upd (u 1) (u 4 0).toNatClampNeg (((2 : Int32) * (u 6 0)) + b))) (u 2) (u 3 0) ((u 4 0) + (1 : Int32)) (u 5 0) (u 6 0) (1 : Int32)) := by
  obtain ⟨e3, e4, e5, e7, e6, e2, e1⟩ := h
  refine ⟨e3, ?_, e5, (rfl : (1 : Int32) = 1), fun q => absurd q (show ¬ (1 : Int32) = 2 by decide), e2, ?_⟩
  · show y 4 0 + 1 = u 4 0 + 1
    rw [e4]
  · intro hk3 j hj
    have ek : y 4 0 + 1 = nI (k + 1) := by rw [hk, nI_1]
    have hk3 : (y 4 0 + 1).toNatClampNeg ≤ 300 := hk3
    have hj : j < (y 4 0 + 1).toNatClampNeg := hj
    rw [ek, nI_clamp (by omega)] at hk3 hj
    have hn : ¬ (300 : Int32) ≤ y 4 0 := by rw [hk]; exact nI_ge (a := k) (b := 300) (by omega) (by decide)
    show (if (300 : Int32) ≤ (y 4 0) then (y 1) else (upd (y 1) (y 4 0).toNatClampNeg (((2 : Int32) * (y 6 0)) + b))) j = (if (300 : Int32) ≤ (u 4 0) then (u 1) else (upd (u 1) (u 4 0).toNatClampNeg (((2 : Int32) * (u 6 0)) + b))) j
    rw [← e4, if_neg hn, if_neg hn, ← h6, hk, nI_clamp (by omega)]
    unfold upd
    by_cases hjk : j = k
    · rw [if_pos hjk, if_pos hjk]
    · rw [if_neg hjk, if_neg hjk]
      exact e1 (by rw [hk, nI_clamp (by omega)]; omega) j (by rw [hk, nI_clamp (by omega)]; omega)
theorem RS_sign {y u : RV} (h : RS y u) {k : Nat} (hk : y 4 0 = nI k) (hk2 : k ≤ 524880) (h7 : y 7 0 = 2) (ch : Int32) : RS (w_X4_readSign y ch) (w_X4_readSign u ch) := by
  unfold w_X4_readSign
  have h6 := h.2.2.2.2.1 h7
  by_cases a1 : ch = 43
  · simp only [if_pos a1]
    exact RS_sign1 h hk hk2 h6 1
  · by_cases a2 : ch = 45
    · simp only [if_neg a1, if_pos a2]
      exact RS_sign1 h hk hk2 h6 0
    · simp only [if_neg a1, if_neg a2]
      exact h
theorem stN_rel (f g : Nat → Int32) {d k : Nat} (hd : 1 ≤ d) (hdk : d ≤ k) (hf : ∀ j, j < k → f j = g j) : ∀ (n : Nat), k + n ≤ 300 → ∀ j, j < k + n → stN f (nI d) k n j = stN g (nI d) k n j
  | 0, _, j, hj => hf j hj
  | n + 1, hn, j, hj => by
    have ih := stN_rel f g hd hdk hf n (by omega)
    show upd (stN f (nI d) k n) (k + n) (stN f (nI d) k n (nI (k + n) - nI d).toNatClampNeg) j = upd (stN g (nI d) k n) (k + n) (stN g (nI d) k n (nI (k + n) - nI d).toNatClampNeg) j
    unfold upd
    by_cases hjk : j = k + n
    · rw [if_pos hjk, if_pos hjk, pk_sub (by omega), nI_clamp (by omega)]
      exact ih _ (by omega)
    · rw [if_neg hjk, if_neg hjk]
      exact ih j (by omega)
theorem digit_eq {y : RV} {ch : Int32} (a1 : ¬ ch < 50) (a2 : ¬ (57 : Int32) < ch) (a3 : (1 : Int32) ≤ y 5 0) {o k s0 t : Nat} (e5 : y 5 0 - 1 = nI o) (ho : o < 4) (e2 : y 2 o = nI s0) (e4 : y 4 0 = nI k) (hs : s0 ≤ k) (hk : k ≤ 524880) (t3 : ch - 48 = nI t) (t2 : t ≤ 9) :
    w_X4_readDigit y ch = if (300 : Int32) < nI (s0 + (k - s0) * t) then mkT (y 0) (y 1) (y 2) (y 3 0) (nI (s0 + (k - s0) * t)) (nI o) (y 6 0) 1 else mkT (y 0) (stN (y 1) (nI (k - s0)) k (s0 + (k - s0) * t - k)) (y 2) (y 3 0) (nI (s0 + (k - s0) * t)) (nI o) (y 6 0) 1 := by
  have hmul : (k - s0) * t ≤ 524880 * 9 := Nat.mul_le_mul (by omega) t2
  have hend : (nI s0 + (y 4 0 - nI s0) * nI t : Int32) = nI (s0 + (k - s0) * t) := by rw [e4, pk_sub hs, pk_mul, nI_add]
  have hsp : y 4 0 - nI s0 = nI (k - s0) := by rw [e4]; exact pk_sub hs
  have hkc : (y 4 0).toNatClampNeg = k := by rw [e4]; exact nI_clamp (by omega)
  have e2' : y 2 (y 5 0 - 1).toNatClampNeg = nI s0 := by rw [e5, nI_clamp (by omega)]; exact e2
  unfold w_X4_readDigit
  rw [if_neg a1, if_neg a2, if_pos a3, e2', t3]
  by_cases hb : (300 : Int32) < nI (s0 + (k - s0) * t)
  · have hR : w_X4_repeatFrom (mkT (y 0) (y 1) (y 2) (y 3 0) (y 4 0) ((y 5 0) - (1 : Int32)) (y 6 0) (y 7 0)) (nI s0) (nI t) = mkT (y 0) (y 1) (y 2) (y 3 0) (nI (s0 + (k - s0) * t)) ((y 5 0) - (1 : Int32)) (y 6 0) (y 7 0) := by
      unfold w_X4_repeatFrom
      show (if (300 : Int32) < (nI s0 + (y 4 0 - nI s0) * nI t) then mkT (y 0) (y 1) (y 2) (y 3 0) (nI s0 + (y 4 0 - nI s0) * nI t) (y 5 0 - 1) (y 6 0) (y 7 0) else _) = _
      rw [hend]
      exact if_pos hb
    rw [hR, if_pos hb, ← e5]
    rfl
  · have hR : w_X4_repeatFrom (mkT (y 0) (y 1) (y 2) (y 3 0) (y 4 0) ((y 5 0) - (1 : Int32)) (y 6 0) (y 7 0)) (nI s0) (nI t) = mkT (y 0) (stN (y 1) (nI (k - s0)) k (s0 + (k - s0) * t - k)) (y 2) (y 3 0) (nI (s0 + (k - s0) * t)) ((y 5 0) - (1 : Int32)) (y 6 0) (y 7 0) := by
      unfold w_X4_repeatFrom
      show (if (300 : Int32) < (nI s0 + (y 4 0 - nI s0) * nI t) then _ else mkT (y 0) (stN (y 1) (y 4 0 - nI s0) (y 4 0).toNatClampNeg ((nI s0 + (y 4 0 - nI s0) * nI t).toNatClampNeg - (y 4 0).toNatClampNeg)) (y 2) (y 3 0) (nI s0 + (y 4 0 - nI s0) * nI t) ((y 5 0) - (1 : Int32)) (y 6 0) (y 7 0)) = _
      rw [hend, hsp, hkc, nI_clamp (by omega)]
      exact if_neg hb
    rw [hR, if_neg hb, ← e5]
    rfl
theorem RS_digit {i : Nat} {y u : RV} (h : RS y u) (ht : TJ i y) (hi : i ≤ 80) {ch : Int32} (a1 : ¬ ch < 50) (a2 : ¬ (57 : Int32) < ch) (a3 : (1 : Int32) ≤ y 5 0) : RS (w_X4_readDigit y ch) (w_X4_readDigit u ch) := by
  obtain ⟨e3, e4, e5, e7, e6, e2, e1⟩ := h
  obtain ⟨o, k, s0, ho, d5, d2, d4, hs, hk⟩ := TJ.dig ht hi a3
  obtain ⟨t, t1, t2, t3⟩ := dg_t a1 a2
  have h5 : y 5 0 = nI (o + 1) := by
    rw [← nI_1, ← d5]
    exact (Int32.sub_add_cancel _ _).symm
  have d2' : u 2 o = nI s0 := by
    rw [← e2 o (by rw [h5, nI_clamp (by omega)]; omega)]
    exact d2
  have hmul : (k - s0) * t ≤ 524880 * 9 := Nat.mul_le_mul (by omega) t2
  have hge : k - s0 ≤ (k - s0) * t := Nat.le_mul_of_pos_right _ (by omega)
  rw [digit_eq a1 a2 a3 d5 ho d2 d4 hs hk t3 t2, digit_eq a1 a2 (by rw [← e5]; exact a3) (by rw [← e5]; exact d5) ho d2' (by rw [← e4]; exact d4) hs hk t3 t2]
  have e2' : ∀ j, j < (nI o).toNatClampNeg → y 2 j = u 2 j := fun j hj => by
    rw [nI_clamp (by omega)] at hj
    exact e2 j (by rw [h5, nI_clamp (by omega)]; omega)
  by_cases hb : (300 : Int32) < nI (s0 + (k - s0) * t)
  · rw [if_pos hb, if_pos hb]
    refine ⟨e3, (rfl : nI (s0 + (k - s0) * t) = nI (s0 + (k - s0) * t)), (rfl : nI o = nI o), (rfl : (1 : Int32) = 1), fun q => absurd q (show ¬ (1 : Int32) = 2 by decide), e2', fun hk3 => ?_⟩
    have hk3 : (nI (s0 + (k - s0) * t)).toNatClampNeg ≤ 300 := hk3
    rw [nI_clamp (by omega)] at hk3
    exact absurd hb (nI_nlt (a := 300) (b := s0 + (k - s0) * t) hk3 (by decide))
  · rw [if_neg hb, if_neg hb]
    refine ⟨e3, (rfl : nI (s0 + (k - s0) * t) = nI (s0 + (k - s0) * t)), (rfl : nI o = nI o), (rfl : (1 : Int32) = 1), fun q => absurd q (show ¬ (1 : Int32) = 2 by decide), e2', fun hk3 j hj => ?_⟩
    have hk3 : (nI (s0 + (k - s0) * t)).toNatClampNeg ≤ 300 := hk3
    have hj : j < (nI (s0 + (k - s0) * t)).toNatClampNeg := hj
    rw [nI_clamp (by omega)] at hk3 hj
    have hf : ∀ j, j < k → y 1 j = u 1 j := fun j hj => e1 (by rw [d4, nI_clamp (by omega)]; omega) j (by rw [d4, nI_clamp (by omega)]; exact hj)
    show stN (y 1) (nI (k - s0)) k (s0 + (k - s0) * t - k) j = stN (u 1) (nI (k - s0)) k (s0 + (k - s0) * t - k) j
    rcases Nat.eq_zero_or_pos (k - s0) with hz | hz
    · have q0 : s0 + (k - s0) * t - k = 0 := by rw [hz, Nat.zero_mul]; omega
      have q1 : (k - s0) * t = 0 := by rw [hz, Nat.zero_mul]
      rw [q0]
      exact hf j (by omega)
    · exact stN_rel (y 1) (u 1) hz (by omega) hf _ (by omega) j (by omega)
theorem RS_close {y u : RV} (h : RS y u) (ch : Int32) :
    RS (if ch = (41 : Int32) then (if (y 5 0) ≤ 0 then y else (if (y 7 0) = (1 : Int32) then (mkT (y 0) (y 1) (y 2) (y 3 0) (y 4 0) (y 5 0) (y 6 0) (3 : Int32)) else y)) else y)
      (if ch = (41 : Int32) then (if (u 5 0) ≤ 0 then u else (if (u 7 0) = (1 : Int32) then (mkT (u 0) (u 1) (u 2) (u 3 0) (u 4 0) (u 5 0) (u 6 0) (3 : Int32)) else u)) else u) := by
  have h0 := h
  obtain ⟨e3, e4, e5, e7, e6, e2, e1⟩ := h
  by_cases a1 : ch = 41
  · by_cases a2 : y 5 0 ≤ 0
    · have a2' : u 5 0 ≤ 0 := by rw [← e5]; exact a2
      simp only [if_pos a1, if_pos a2, if_pos a2']
      exact h0
    · have a2' : ¬ u 5 0 ≤ 0 := by rw [← e5]; exact a2
      by_cases a3 : y 7 0 = 1
      · have a3' : u 7 0 = 1 := by rw [← e7]; exact a3
        simp only [if_pos a1, if_neg a2, if_neg a2', if_pos a3, if_pos a3']
        exact ⟨e3, e4, e5, (rfl : (3 : Int32) = 3), fun q => absurd q (show ¬ (3 : Int32) = 2 by decide), e2, e1⟩
      · have a3' : ¬ u 7 0 = 1 := by rw [← e7]; exact a3
        simp only [if_pos a1, if_neg a2, if_neg a2', if_neg a3, if_neg a3']
        exact h0
  · simp only [if_neg a1]
    exact h0
theorem RS_op {y u : RV} (h : RS y u) {o : Nat} (ho : o ≤ 4) (h5 : y 5 0 = nI o) :
    RS (mkT (y 0) (y 1) (upd (y 2) (y 5 0).toNatClampNeg (y 4 0)) (y 3 0) (y 4 0) ((y 5 0) + (1 : Int32)) (y 6 0) (0 : Int32)) (mkT (u 0) (u 1) (upd (u 2) (u 5 0).toNatClampNeg (u 4 0)) (u 3 0) (u 4 0) ((u 5 0) + (1 : Int32)) (u 6 0) (0 : Int32)) := by
  obtain ⟨e3, e4, e5, e7, e6, e2, e1⟩ := h
  refine ⟨e3, e4, ?_, (rfl : (0 : Int32) = 0), fun q => absurd q (show ¬ (0 : Int32) = 2 by decide), fun j hj => ?_, e1⟩
  · show y 5 0 + 1 = u 5 0 + 1
    rw [e5]
  · have hj : j < (y 5 0 + 1).toNatClampNeg := hj
    rw [h5, nI_1, nI_clamp (by omega)] at hj
    show upd (y 2) (y 5 0).toNatClampNeg (y 4 0) j = upd (u 2) (u 5 0).toNatClampNeg (u 4 0) j
    rw [← e5, ← e4, h5, nI_clamp (by omega)]
    unfold upd
    by_cases hjo : j = o
    · rw [if_pos hjo, if_pos hjo]
    · rw [if_neg hjo, if_neg hjo]
      exact e2 j (by rw [h5, nI_clamp (by omega)]; omega)
theorem RS_item {y u : RV} (h : RS y u) {o : Nat} (ho : o ≤ 4) (h5 : y 5 0 = nI o) (ch : Int32) : RS (w_X4_readItem y ch) (w_X4_readItem u ch) := by
  have h0 := h
  obtain ⟨e3, e4, e5, e7, e6, e2, e1⟩ := h
  have hcl := RS_close h0 ch
  have hop := RS_op h0 ho h5
  unfold w_X4_readItem
  by_cases a1 : ch < 97
  · by_cases a3 : ch = 40
    · by_cases a4 : (4 : Int32) ≤ y 5 0
      · have a4' : (4 : Int32) ≤ u 5 0 := by rw [← e5]; exact a4
        rw [if_pos a1, if_pos a1, if_pos a3, if_pos a3, if_pos a4]
        refine Eq.mpr (congrArg _ (if_pos a4')) hcl
      · have a4' : ¬ (4 : Int32) ≤ u 5 0 := by rw [← e5]; exact a4
        rw [if_pos a1, if_pos a1, if_pos a3, if_pos a3, if_neg a4]
        refine Eq.mpr (congrArg _ (if_neg a4')) hop
    · rw [if_pos a1, if_pos a1, if_neg a3]
      refine Eq.mpr (congrArg _ (if_neg a3)) hcl
  · by_cases a2 : (122 : Int32) < ch
    · by_cases a3 : ch = 40
      · by_cases a4 : (4 : Int32) ≤ y 5 0
        · have a4' : (4 : Int32) ≤ u 5 0 := by rw [← e5]; exact a4
          rw [if_neg a1, if_neg a1, if_pos a2, if_pos a2, if_pos a3, if_pos a3, if_pos a4]
          refine Eq.mpr (congrArg _ (if_pos a4')) hcl
        · have a4' : ¬ (4 : Int32) ≤ u 5 0 := by rw [← e5]; exact a4
          rw [if_neg a1, if_neg a1, if_pos a2, if_pos a2, if_pos a3, if_pos a3, if_neg a4]
          refine Eq.mpr (congrArg _ (if_neg a4')) hop
      · rw [if_neg a1, if_neg a1, if_pos a2, if_pos a2, if_neg a3]
        refine Eq.mpr (congrArg _ (if_neg a3)) hcl
    · rw [if_neg a1, if_neg a1, if_neg a2, if_neg a2]
      exact ⟨e3, e4, e5, (rfl : (2 : Int32) = 2), fun _ => (rfl : ch - (97 : Int32) = ch - (97 : Int32)), e2, e1⟩
theorem RS_r {y u : RV} (h : RS y u) (ch : Int32) : r_X4_readCharacter u ch = r_X4_readCharacter y ch := by
  obtain ⟨e3, e4, e5, e7, e6, e2, e1⟩ := h
  unfold r_X4_readCharacter r_X4_readSign r_X4_readDigit r_X4_readItem
  rw [← e5, ← e7]
theorem RS_step {i : Nat} {y u : RV} (h : RS y u) (ht : TJ i y) (hi : i ≤ 80) {ch : Int32} (hc : ¬ r_X4_readCharacter y ch = 0) : RS (w_X4_readCharacter y ch) (w_X4_readCharacter u ch) := by
  have h7 := h.2.2.2.1
  obtain ⟨o, k, s, c1, c2, c3, c4, c5, c6⟩ := TJ.small ht hi
  unfold r_X4_readCharacter at hc
  unfold w_X4_readCharacter
  by_cases a1 : y 7 0 = 2
  · rw [if_pos a1, if_pos (by rw [← h7]; exact a1)]
    exact RS_sign h c3 c6 a1 ch
  · rw [if_neg a1] at hc
    have a1' : ¬ u 7 0 = 2 := by rw [← h7]; exact a1
    by_cases a2 : y 7 0 = 3
    · have a2' : u 7 0 = 3 := by rw [← h7]; exact a2
      rw [if_pos a2] at hc
      simp only [if_neg a1, if_neg a1', if_pos a2, if_pos a2']
      unfold r_X4_readDigit at hc
      by_cases b1 : ch < 50
      · rw [if_pos b1] at hc
        exact absurd rfl hc
      · rw [if_neg b1] at hc
        by_cases b2 : (57 : Int32) < ch
        · rw [if_pos b2] at hc
          exact absurd rfl hc
        · rw [if_neg b2] at hc
          by_cases b3 : (1 : Int32) ≤ y 5 0
          · exact RS_digit h ht hi b1 b2 b3
          · rw [if_neg b3] at hc
            exact absurd rfl hc
    · have a2' : ¬ u 7 0 = 3 := by rw [← h7]; exact a2
      simp only [if_neg a1, if_neg a1', if_neg a2, if_neg a2']
      exact RS_item h c1 c2 ch
theorem RS_end {y u : RV} (h : RS y u) : rd_end u = rd_end y := by
  obtain ⟨e3, e4, e5, e7, e6, e2, e1⟩ := h
  unfold rd_end
  rw [← e5, ← e7, ← e3]
theorem RS_rd (c : Nat → Int32) : ∀ (n i : Nat) (y u : RV), RS y u → TJ i y → i + n ≤ 80 → (rd c n i u).1 = (rd c n i y).1 ∧ ((rd c n i y).1 = -99999 → RS (rd c n i y).2 (rd c n i u).2)
  | 0, i, y, u, h, _, _ => ⟨RS_end h, fun _ => h⟩
  | n + 1, i, y, u, h, ht, hn => by
    have e : rd c (n + 1) i y = if r_X4_readCharacter y (c i) = 0 then (nI i, w_X4_readCharacter y (c i)) else rd c n (i + 1) (w_X4_readCharacter y (c i)) := rfl
    have e' : rd c (n + 1) i u = if r_X4_readCharacter u (c i) = 0 then (nI i, w_X4_readCharacter u (c i)) else rd c n (i + 1) (w_X4_readCharacter u (c i)) := rfl
    rw [e, e', RS_r h]
    by_cases hc : r_X4_readCharacter y (c i) = 0
    · rw [if_pos hc, if_pos hc]
      refine ⟨rfl, fun hr => ?_⟩
      have h1 : nI i = -99999 := hr
      have h2 : ¬ nI i < 0 := nI_pos (by omega)
      rw [h1] at h2
      exact absurd (by decide) h2
    · rw [if_neg hc, if_neg hc]
      exact RS_rd c n (i + 1) _ _ (RS_step h ht (by omega) hc) (TJ_step ht (by omega) hc) (by omega)
theorem rd_row0 (c : Nat → Int32) : ∀ (n i : Nat) (y : RV), (rd c n i y).2 0 = y 0
  | 0, _, _ => rfl
  | n + 1, i, y => by
    have e : rd c (n + 1) i y = if r_X4_readCharacter y (c i) = 0 then (nI i, w_X4_readCharacter y (c i)) else rd c n (i + 1) (w_X4_readCharacter y (c i)) := rfl
    rw [e]
    split
    · exact rc_row0 y _
    · exact (rd_row0 c n (i + 1) _).trans (rc_row0 y _)
/-- a text that was read is read again with the same end, the same number of steps, the same steps -/
theorem again {x : RV} (h : Tok x) : r_X4_read (w_X4_read x) = r_X4_read x ∧ (r_X4_read x = -99999 → RS (w_X4_read x) (w_X4_read (w_X4_read x))) := by
  obtain ⟨⟨n, hn, hx⟩, hg⟩ := h
  have e0 : w_X4_read x 0 = x 0 := rd_row0 (x 0) (x 3 0).toNatClampNeg 0 (rd0 x)
  have e3 : w_X4_read x 3 0 = x 3 0 := (rd_tok (x 0) (x 3 0).toNatClampNeg 0 (rd0 x) hg).1
  have h0 : RS (rd0 x) (rd0 (w_X4_read x)) := ⟨e3.symm, rfl, rfl, rfl, fun q => absurd q (show ¬ (0 : Int32) = 2 by decide), fun j hj => absurd hj (Nat.not_lt_zero j), fun _ j hj => absurd hj (Nat.not_lt_zero j)⟩
  have h1 := RS_rd (x 0) (x 3 0).toNatClampNeg 0 (rd0 x) (rd0 (w_X4_read x)) h0 (TJ_start x hg) (by rw [hx, nI_clamp (by omega)]; omega)
  have e : rdx (w_X4_read x) = rd (x 0) (x 3 0).toNatClampNeg 0 (rd0 (w_X4_read x)) := by
    unfold rdx
    rw [e0, e3]
  constructor
  · show (rdx (w_X4_read x)).1 = (rdx x).1
    rw [e]
    exact h1.1
  · intro hr
    show RS (rdx x).2 (rdx (w_X4_read x)).2
    rw [e]
    exact h1.2 hr
theorem again_p {x : RV} (h : Tok x) : r_X4_isPlayable (w_X4_isPlayable x) = r_X4_isPlayable x := by
  have h1 := again h
  unfold r_X4_isPlayable w_X4_isPlayable
  by_cases hr : r_X4_read x = -99999
  · have h2 := h1.2 hr
    rw [h1.1, if_pos hr, if_pos hr, ← h2.2.1]
  · rw [h1.1, if_neg hr, if_neg hr]
theorem goN_cong {x u : RV} (v : SV) : ∀ n, (∀ j, j < n → x 1 j = u 1 j) → goN x n v = goN u n v
  | 0, _ => rfl
  | n + 1, h => by
    show w_X3_go (goN x n v) (x 1 n / 2) (if (x 1 n - x 1 n / 2 * 2) = 1 then 1 else 0) = w_X3_go (goN u n v) (u 1 n / 2) (if (u 1 n - u 1 n / 2 * 2) = 1 then 1 else 0)
    rw [goN_cong v n (fun j hj => h j (by omega)), h n (by omega)]
/-- a text that can be played: its number of steps, and what reading it again gives -/
theorem play_of {x : RV} (h : Tok x) (hp : ¬ r_X4_isPlayable x = 0) : r_X4_read x = -99999 ∧ ∃ n, n ≤ 300 ∧ (w_X4_isPlayable x) 4 0 = nI n ∧ stepsOf (w_X4_isPlayable x) = n ∧ stepok (w_X4_isPlayable x) ∧ r_X4_read (w_X4_isPlayable x) = -99999 ∧ (w_X4_read (w_X4_isPlayable x)) 4 0 = nI n ∧ ∀ v, w_X3_goAll v (w_X4_isPlayable (w_X4_isPlayable x)) = w_X3_goAll v (w_X4_isPlayable x) := by
  have hok := stepok_of h.1 h.2 hp
  have h1 := again h
  obtain ⟨⟨N, hN, hNx⟩, hg⟩ := h
  unfold r_X4_isPlayable at hp
  split at hp
  · rename_i hr
    split at hp
    · exact absurd rfl hp
    · rename_i h300
      have h2 := h1.2 hr
      obtain ⟨j, hj80, hj⟩ := rd_TJ (x 0) (x 3 0).toNatClampNeg 0 (rd0 x) (TJ_start x hg) (by rw [hNx, nI_clamp (by omega)]; omega) hr
      obtain ⟨o, k, s, a1, a2, a3, a4, a5, a6⟩ := TJ.small hj hj80
      have e : (w_X4_read x) 4 0 = nI k := a3
      have hk : k ≤ 300 := by
        refine Nat.le_of_not_lt fun hlt => h300 ?_
        rw [e]
        exact nI_lt (a := 300) hlt (by omega)
      have es : stepsOf (w_X4_isPlayable x) = k := by
        unfold stepsOf
        have e2 : (w_X4_isPlayable x) 4 0 = nI k := e
        rw [e2, nI_clamp (by omega)]
        omega
      have e9 : (w_X4_read (w_X4_isPlayable x)) 4 0 = nI k := by
        show (w_X4_read (w_X4_read x)) 4 0 = nI k
        rw [← h2.2.1]
        exact e
      refine ⟨hr, k, hk, e, es, hok, h1.1.trans hr, e9, fun v => ?_⟩
      have es2 : stepsOf (w_X4_isPlayable (w_X4_isPlayable x)) = k := by
        unfold stepsOf
        have e2 : (w_X4_isPlayable (w_X4_isPlayable x)) 4 0 = nI k := e9
        rw [e2, nI_clamp (by omega)]
        omega
      unfold w_X3_goAll
      rw [es, es2]
      refine (goN_cong v k fun j hj => ?_).symm
      exact h2.2.2.2.2.2.2 (by rw [e, nI_clamp (by omega)]; exact hk) j (by rw [e, nI_clamp (by omega)]; exact hj)
  · exact absurd rfl hp
/-! the ring: the i-th last of what is remembered -/
def hnth (h : HV) (i : Nat) : SV := h.2.2 ((h.1 + (h.2.1 - 1 - i)) % 14)
theorem hrem_cnt {h : HV} (v : SV) (hh : hok h) : (hrem h v).2.1 = if h.2.1 = 14 then 14 else h.2.1 + 1 := by
  unfold hrem
  split <;> rfl
theorem hrem_0 {h : HV} (v : SV) (hh : hok h) : hnth (hrem h v) 0 = v := by
  obtain ⟨h1, h2⟩ := hh
  unfold hnth hrem
  split
  · rename_i hc
    show va_up h.2.2 (((h.1 + 1) % 14 + 13) % 14) v (((h.1 + 1) % 14 + (14 - 1 - 0)) % 14) = v
    exact va_up_self _ _ _
  · rename_i hc
    show va_up h.2.2 ((h.1 + h.2.1) % 14) v ((h.1 + (h.2.1 + 1 - 1 - 0)) % 14) = v
    exact va_up_self _ _ _
theorem hrem_s {h : HV} (v : SV) (hh : hok h) {i : Nat} (hi : i + 1 < (hrem h v).2.1) : hnth (hrem h v) (i + 1) = hnth h i := by
  obtain ⟨h1, h2⟩ := hh
  unfold hrem at hi
  unfold hnth hrem
  split
  · rename_i hc
    rw [if_pos hc] at hi
    have hi : i + 1 < 14 := hi
    show va_up h.2.2 (((h.1 + 1) % 14 + 13) % 14) v (((h.1 + 1) % 14 + (14 - 1 - (i + 1))) % 14) = h.2.2 ((h.1 + (h.2.1 - 1 - i)) % 14)
    rw [va_up_ne _ _ (by omega)]
    exact congrArg h.2.2 (by omega)
  · rename_i hc
    rw [if_neg hc] at hi
    have hi : i + 1 < h.2.1 + 1 := hi
    show va_up h.2.2 ((h.1 + h.2.1) % 14) v ((h.1 + (h.2.1 + 1 - 1 - (i + 1))) % 14) = h.2.2 ((h.1 + (h.2.1 - 1 - i)) % 14)
    rw [va_up_ne _ _ (by omega)]
    exact congrArg h.2.2 (by omega)
theorem hpop_s (h : HV) {i : Nat} : hnth (hpop h) i = hnth h (i + 1) := by
  show h.2.2 ((h.1 + (h.2.1 - 1 - 1 - i)) % 14) = h.2.2 ((h.1 + (h.2.1 - 1 - (i + 1))) % 14)
  exact congrArg h.2.2 (by omega)
/-! branches at one place, and as many undone -/
def brN (V : BV) (pl tk : Int32) : Nat → BV
  | 0 => V
  | n + 1 => w_X5_branch (brN V pl tk n) pl tk
def unN (V : BV) : Nat → BV
  | 0 => V
  | n + 1 => w_X5_undo (unN V n)
theorem branch_eq {V : BV} {p : Nat} (hp : p < 26) (tk : Int32) : w_X5_branch V (nI p) tk = (V.1, w_X3_go V.2.1 (nI p) tk, V.2.2.1, V.2.2.2.1, V.2.2.2.2.1, hrem V.2.2.2.2.2.1 V.2.1, V.2.2.2.2.2.2) := by
  unfold w_X5_branch
  rw [if_pos (chkP_ok hp)]
theorem brN_inv {B : Nat} {V : BV} (h : BInv B V) (hB : B + 100 < 2 ^ 30) (pl tk : Int32) : ∀ n, n ≤ 100 → BInv (B + n) (brN V pl tk n)
  | 0, _ => h
  | n + 1, hn => (brN_inv h hB pl tk n (by omega)).branch (by omega) pl tk
theorem brN_st {B : Nat} {V : BV} (h : BInv B V) (hB : B + 100 < 2 ^ 30) {p : Nat} (hp : p < 26) (tk : Int32) : ∀ n, n ≤ 14 → (brN V (nI p) tk n).1 = V.1 ∧ (brN V (nI p) tk n).2.1 = goT V.2.1 (nI p) tk n ∧ n ≤ (brN V (nI p) tk n).2.2.2.2.2.1.2.1 ∧ ∀ i, i < n → hnth (brN V (nI p) tk n).2.2.2.2.2.1 i = goT V.2.1 (nI p) tk (n - 1 - i)
  | 0, _ => ⟨rfl, rfl, Nat.zero_le _, fun i hi => absurd hi (Nat.not_lt_zero i)⟩
  | n + 1, hn => by
    obtain ⟨a1, a2, a3, a4⟩ := brN_st h hB hp tk n (by omega)
    have hi := brN_inv h hB (nI p) tk n (by omega)
    have e : brN V (nI p) tk (n + 1) = w_X5_branch (brN V (nI p) tk n) (nI p) tk := rfl
    rw [e, branch_eq hp]
    generalize brN V (nI p) tk n = U at a1 a2 a3 a4 hi ⊢
    have hh := hi.ho
    have hc := hrem_cnt U.2.1 hh
    have hle : n + 1 ≤ (hrem U.2.2.2.2.2.1 U.2.1).2.1 := by
      rw [hc]
      split <;> omega
    refine ⟨a1, ?_, hle, fun i hi2 => ?_⟩
    · show w_X3_go U.2.1 (nI p) tk = w_X3_go (goT V.2.1 (nI p) tk n) (nI p) tk
      rw [a2]
    · show hnth (hrem U.2.2.2.2.2.1 U.2.1) i = goT V.2.1 (nI p) tk (n + 1 - 1 - i)
      cases i with
      | zero =>
        rw [hrem_0 _ hh, a2]
        rfl
      | succ i =>
        rw [hrem_s _ hh (by omega), a4 i (by omega)]
        congr 1
        omega
theorem unN_st {V : BV} {n : Nat} {f : Nat → SV} (h1 : n ≤ V.2.2.2.2.2.1.2.1) (h2 : ∀ i, i < n → hnth V.2.2.2.2.2.1 i = f (n - 1 - i)) (h3 : V.2.1 = f n) : ∀ j, j ≤ n → (unN V j).1 = V.1 ∧ (unN V j).2.1 = f (n - j) ∧ (unN V j).2.2.2.2.2.1.2.1 = V.2.2.2.2.2.1.2.1 - j ∧ ∀ i, i < n - j → hnth (unN V j).2.2.2.2.2.1 i = f (n - j - 1 - i)
  | 0, _ => ⟨rfl, h3, rfl, fun i hi => h2 i hi⟩
  | j + 1, hj => by
    obtain ⟨a1, a2, a3, a4⟩ := unN_st h1 h2 h3 j (by omega)
    have e : unN V (j + 1) = w_X5_undo (unN V j) := rfl
    rw [e]
    generalize unN V j = U at a1 a2 a3 a4 ⊢
    rw [(undo_1 (V := U) (by omega)).1]
    refine ⟨a1, ?_, ?_, fun i hi => ?_⟩
    · show htop U.2.2.2.2.2.1 = f (n - (j + 1))
      have h5 := a4 0 (by omega)
      rw [show n - (j + 1) = n - j - 1 - 0 by omega, ← h5]
      rfl
    · show U.2.2.2.2.2.1.2.1 - 1 = V.2.2.2.2.2.1.2.1 - (j + 1)
      omega
    · show hnth (hpop U.2.2.2.2.2.1) i = f (n - (j + 1) - 1 - i)
      rw [hpop_s, a4 (i + 1) (by omega)]
      congr 1
      omega
theorem unN_inv {B : Nat} {V : BV} (h : BInv B V) : ∀ n, BInv B (unN V n)
  | 0 => h
  | n + 1 => (unN_inv h n).undo
