/-! ===== the law's facts: a share's bits ===== -/
theorem lq_tb (n : Nat) : (lN n).toBitVec = BitVec.ofNat 64 n := rfl
theorem lq_c : ∀ k, k < 64 → ((nI k).toInt64 &&& 63) = lN k := by decide +kernel
theorem lq_sm : ∀ k, k < 64 → (BitVec.ofNat 64 k).smod 64 = BitVec.ofNat 64 k := by decide +kernel
theorem lq_shl (n : Nat) {k : Nat} (hk : k < 64) : lN n <<< ((nI k).toInt64 &&& 63) = lN (n * 2 ^ k) := by
  rw [lq_c k hk]
  apply Int64.toBitVec_inj.mp
  rw [Int64.toBitVec_shiftLeft, lq_tb, lq_tb, lq_tb, lq_sm k hk]
  apply BitVec.eq_of_toNat_eq
  rw [BitVec.shiftLeft_eq', BitVec.toNat_shiftLeft, BitVec.toNat_ofNat, BitVec.toNat_ofNat, BitVec.toNat_ofNat, Nat.mod_eq_of_lt (show k < 2 ^ 64 by omega), Nat.shiftLeft_eq, Nat.mul_mod, Nat.mod_mod, ← Nat.mul_mod]
theorem qb_of (b : Nat) (hb0 : 0 < b) (hb : b < 2 ^ 24) : ∀ n sc e : Nat, 1 ≤ sc → sc < 2 * b → b ≤ sc * 2 ^ n → n ≤ e → ∃ k, k ≤ n ∧ qb (lN b) n (lN sc) (nI e) = (lN (sc * 2 ^ k), nI (e - k)) ∧ b ≤ sc * 2 ^ k ∧ sc * 2 ^ k < 2 * b ∧ (k = 0 ∨ sc < b)
  | 0, sc, e, h1, h2, h3, h4 => ⟨0, Nat.le_refl _, by rw [Nat.pow_zero, Nat.mul_one, Nat.sub_zero]; rfl, h3, by rw [Nat.pow_zero, Nat.mul_one]; exact h2, Or.inl rfl⟩
  | n + 1, sc, e, h1, h2, h3, h4 => by
    have e0 : qb (lN b) (n + 1) (lN sc) (nI e) = if 0 ≤ lg_cmp (lN sc) (lN b) then (lN sc, nI e) else qb (lN b) n (lN sc * 2) (nI e + (-1)) := rfl
    rw [e0]
    by_cases hs : b ≤ sc
    · rw [if_pos ((lg_cmp_ge _ _).mpr ((pk_lLE (by omega) (by omega)).mpr hs))]
      exact ⟨0, Nat.zero_le _, by rw [Nat.pow_zero, Nat.mul_one, Nat.sub_zero], by rw [Nat.pow_zero, Nat.mul_one]; exact hs, by rw [Nat.pow_zero, Nat.mul_one]; exact h2, Or.inl rfl⟩
    · rw [if_neg (fun q => hs ((pk_lLE (by omega) (by omega)).mp ((lg_cmp_ge _ _).mp q)))]
      have e2 : lN sc * 2 = lN (sc * 2) := lN_mul sc 2
      have e3 : nI e + (-1) = nI (e - 1) := by
        have q := pk_m1 (e - 1)
        rw [show e - 1 + 1 = e by omega] at q
        exact q
      have hp : sc * 2 ^ (n + 1) = sc * 2 * 2 ^ n := by rw [Nat.pow_succ, Nat.mul_comm (2 ^ n) 2, Nat.mul_assoc]
      rw [e2, e3]
      obtain ⟨k, k1, k2, k3, k4, k5⟩ := qb_of b hb0 hb n (sc * 2) (e - 1) (by omega) (by omega) (by rw [← hp]; exact h3) (by omega)
      have hp2 : sc * 2 ^ (k + 1) = sc * 2 * 2 ^ k := by rw [Nat.pow_succ, Nat.mul_comm (2 ^ k) 2, Nat.mul_assoc]
      refine ⟨k + 1, by omega, ?_, by rw [hp2]; exact k3, by rw [hp2]; exact k4, Or.inr (by omega)⟩
      rw [k2, hp2, show e - 1 - k = e - (k + 1) by omega]
theorem qres_of {b S e : Nat} (hb0 : 0 < b) (hb : b < 2 ^ 24) (hS : S < 2 * b) (he0 : 0 < e) (he : e ≤ 127) : qres (nI b) (lN S, nI e) = nI ((S * 2 ^ 24 + b) / (2 * b) + (e - 1) * 2 ^ 23) := by
  unfold qres
  have e1 : (nI e - (1 : Int32)) = nI (e - 1) := pk_sub (a := e) (b := 1) (by omega)
  have e2 : lN S <<< (((24 : Int32)).toInt64 &&& 63) = lN (S * 2 ^ 24) := lq_shl S (k := 24) (by decide)
  have e3 : lN (e - 1) <<< (((23 : Int32)).toInt64 &&& 63) = lN ((e - 1) * 2 ^ 23) := lq_shl (e - 1) (k := 23) (by decide)
  have e4 : (2 : Int64) * lN b = lN (2 * b) := lN_mul 2 b
  show (((((lN S <<< (((24 : Int32)).toInt64 &&& 63)) + (nI b).toInt64) / ((2 : Int64) * (nI b).toInt64)) + ((nI e - (1 : Int32)).toInt64 <<< (((23 : Int32)).toInt64 &&& 63)))).toInt32 = _
  have h1 : S * 2 ^ 24 + b < 2 ^ 63 := by
    have hS2 : S < 33554432 := by omega
    show S * 16777216 + b < 9223372036854775808
    omega
  rw [e1, nI_l (show e - 1 < 2 ^ 31 by omega), nI_l (show b < 2 ^ 31 by omega), e2, e3, e4, lN_add, pk_lDiv h1 (by omega) (by omega), lN_add, lN_i]
/-- 0, 1 or between: the bits of a share tell -/
theorem share_of {a b : Nat} (h : a ≤ b) (hb0 : 0 < b) (hb : b < 2 ^ 24) : (a = 0 → r_X5_quotientBits (nI a) (nI b) = 0) ∧ (a = b → r_X5_quotientBits (nI a) (nI b) = 1065353216) ∧ (0 < a → a < b → ¬ r_X5_quotientBits (nI a) (nI b) = 0 ∧ ¬ r_X5_quotientBits (nI a) (nI b) = 1065353216) := by
  by_cases ha : a = 0
  · refine ⟨fun _ => ?_, fun q => by omega, fun q => by omega⟩
    subst ha
    unfold r_X5_quotientBits
    exact if_pos (Int32.le_refl _)
  · have h32 : b ≤ a * 2 ^ 32 := Nat.le_trans (by omega : b ≤ 1 * 2 ^ 32) (Nat.mul_le_mul_right _ (by omega))
    obtain ⟨k, k1, k2, k3, k4, k5⟩ := qb_of b hb0 hb 32 a 127 (by omega) (by omega) h32 (by omega)
    have ev : r_X5_quotientBits (nI a) (nI b) = nI ((a * 2 ^ k * 2 ^ 24 + b) / (2 * b) + (127 - k - 1) * 2 ^ 23) := by
      unfold r_X5_quotientBits
      rw [if_neg (nI_nle (by omega) (by omega)), if_pos (show (0 : Int32) < nI b from nI_lt (a := 0) hb0 (by omega)), nI_l (show b < 2 ^ 31 by omega), nI_l (show a < 2 ^ 31 by omega)]
      show qres (nI b) (qb (lN b) 32 (lN a) (nI 127)) = _
      rw [k2]
      exact qres_of hb0 hb k4 (by omega) (by omega)
    generalize hS : a * 2 ^ k = S at k2 k3 k4 ev
    have hlo : 2 ^ 23 ≤ (S * 2 ^ 24 + b) / (2 * b) := by
      rw [Nat.le_div_iff_mul_le (by omega)]
      omega
    have hhi : (S * 2 ^ 24 + b) / (2 * b) < 2 ^ 24 := by
      rw [Nat.div_lt_iff_lt_mul (by omega)]
      omega
    refine ⟨fun q => absurd q ha, fun q => ?_, fun _ hlt => ?_⟩
    · have hk0 : k = 0 := by omega
      subst hk0
      rw [Nat.pow_zero, Nat.mul_one] at hS
      have hq : (S * 2 ^ 24 + b) / (2 * b) = 2 ^ 23 := by
        apply Nat.div_eq_of_lt_le
        · omega
        · omega
      rw [ev, hq]
      decide +kernel
    · have hk0 : ¬ k = 0 := fun q => by
        subst q
        rw [Nat.pow_zero, Nat.mul_one] at hS
        omega
      rw [ev]
      generalize (S * 2 ^ 24 + b) / (2 * b) = Q at hlo hhi
      have hm : (127 - k - 1) * 2 ^ 23 ≤ 125 * 2 ^ 23 := Nat.mul_le_mul_right _ (by omega)
      constructor
      · exact nI_ne0 (by omega) (by omega)
      · intro q
        have q2 : nI (Q + (127 - k - 1) * 2 ^ 23) = nI 1065353216 := q
        have q3 := (nI_eq (by omega) (by omega)).mp q2
        omega
