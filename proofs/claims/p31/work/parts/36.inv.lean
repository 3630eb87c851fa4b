/-! ===== the law's facts: states that agree with their branches ===== -/
def sN (f : Nat → Nat) : Nat → Nat
  | 0 => 0
  | n + 1 => sN f n + f n
def cN (f : Nat → Nat) : Nat → Nat
  | 0 => 0
  | n + 1 => cN f n + (if f n = 0 then 0 else 1)
def up1 (f : Nat → Nat) (i j : Nat) : Nat := if j = i then f j + 1 else f j
theorem sN_up (f : Nat → Nat) (i : Nat) : ∀ n, sN (up1 f i) n = if i < n then sN f n + 1 else sN f n
  | 0 => by rw [if_neg (Nat.not_lt_zero i)]; rfl
  | n + 1 => by
    have ih := sN_up f i n
    have e1 : sN (up1 f i) (n + 1) = sN (up1 f i) n + up1 f i n := rfl
    have e2 : sN f (n + 1) = sN f n + f n := rfl
    have e3 : up1 f i n = if n = i then f n + 1 else f n := rfl
    rw [e1, e2, ih, e3]
    by_cases h1 : n = i
    · rw [if_pos h1, if_neg (by omega), if_pos (by omega)]; omega
    · rw [if_neg h1]
      by_cases h2 : i < n
      · rw [if_pos h2, if_pos (by omega)]; omega
      · rw [if_neg h2, if_neg (by omega)]
theorem cN_up (f : Nat → Nat) (i : Nat) : ∀ n, cN (up1 f i) n = if i < n ∧ f i = 0 then cN f n + 1 else cN f n
  | 0 => by rw [if_neg (fun h => Nat.not_lt_zero i h.1)]; rfl
  | n + 1 => by
    have ih := cN_up f i n
    have e1 : cN (up1 f i) (n + 1) = cN (up1 f i) n + (if up1 f i n = 0 then 0 else 1) := rfl
    have e2 : cN f (n + 1) = cN f n + (if f n = 0 then 0 else 1) := rfl
    have e3 : up1 f i n = if n = i then f n + 1 else f n := rfl
    rw [e1, e2, ih, e3]
    by_cases h1 : n = i
    · subst h1
      rw [if_pos rfl, if_neg (fun h => Nat.lt_irrefl _ h.1), if_neg (by omega)]
      by_cases h0 : f n = 0
      · rw [if_pos h0, if_pos ⟨Nat.lt_succ_self n, h0⟩]
      · rw [if_neg h0, if_neg (fun h => h0 h.2)]
    · rw [if_neg h1]
      by_cases h2 : i < n ∧ f i = 0
      · rw [if_pos h2, if_pos (show i < n + 1 ∧ f i = 0 from ⟨by omega, h2.2⟩)]; omega
      · rw [if_neg h2, if_neg (show ¬ (i < n + 1 ∧ f i = 0) from fun h => h2 ⟨by omega, h.2⟩)]
theorem sN_le {f g : Nat → Nat} : ∀ n, (∀ j, j < n → f j ≤ g j) → sN f n ≤ sN g n
  | 0, _ => Nat.le_refl _
  | n + 1, h => Nat.add_le_add (sN_le n (fun j hj => h j (by omega))) (h n (by omega))
theorem sN_mem {f : Nat → Nat} {i : Nat} : ∀ n, i < n → f i ≤ sN f n
  | 0, h => absurd h (Nat.not_lt_zero i)
  | n + 1, h => by
    show f i ≤ sN f n + f n
    by_cases h1 : i = n
    · rw [h1]; omega
    · have := sN_mem (f := f) n (by omega : i < n)
      omega
theorem sN_tail {f : Nat → Nat} {m : Nat} : ∀ n, m ≤ n → (∀ j, m ≤ j → j < n → f j = 0) → sN f n = sN f m
  | 0, h, _ => by rw [show m = 0 by omega]
  | n + 1, h, hz => by
    by_cases h1 : m = n + 1
    · rw [h1]
    · have := sN_tail n (by omega) (fun j a b => hz j a (by omega))
      show sN f n + f n = sN f m
      rw [this, hz n (by omega) (by omega)]
      rfl
theorem cN_tail {f : Nat → Nat} {m : Nat} : ∀ n, m ≤ n → (∀ j, m ≤ j → j < n → f j = 0) → cN f n = cN f m
  | 0, h, _ => by rw [show m = 0 by omega]
  | n + 1, h, hz => by
    by_cases h1 : m = n + 1
    · rw [h1]
    · have := cN_tail n (by omega) (fun j a b => hz j a (by omega))
      show cN f n + (if f n = 0 then 0 else 1) = cN f m
      rw [this, if_pos (hz n (by omega) (by omega))]
      rfl
theorem cN_le {f : Nat → Nat} : ∀ n, cN f n ≤ sN f n
  | 0 => Nat.le_refl _
  | n + 1 => by
    have := cN_le (f := f) n
    show cN f n + (if f n = 0 then 0 else 1) ≤ sN f n + f n
    by_cases h : f n = 0
    · rw [if_pos h]; omega
    · rw [if_neg h]; omega
theorem i_s1 (a x : Int32) : a - x + 1 = a + 1 - x := by
  rw [Int32.sub_eq_add_neg, Int32.sub_eq_add_neg, Int32.add_assoc, Int32.add_assoc, Int32.add_comm (-x) 1]
theorem i_s2 (a x y : Int32) : a - x - y = a - (x + y) := by
  rw [Int32.sub_eq_add_neg, Int32.sub_eq_add_neg, Int32.sub_eq_add_neg, Int32.add_assoc, Int32.neg_add, Int32.sub_eq_add_neg]
theorem i_s3 (a b : Int32) : a + (b - a) = b := by
  rw [Int32.sub_eq_add_neg, Int32.add_comm b, ← Int32.add_assoc, ← Int32.sub_eq_add_neg, Int32.sub_self, Int32.zero_add]
theorem i_s4 (a b : Int32) : a + b - a = b := by
  rw [Int32.add_comm, Int32.sub_eq_add_neg, Int32.add_assoc, ← Int32.sub_eq_add_neg, Int32.sub_self, Int32.add_zero]
/-! desks -/
def DInv (z N : Nat) (w : RV) : Prop := ∃ (U F : Nat → Nat) (c : Nat), (∀ i, i < 64 → w 3 i = nI (U i) ∧ w 4 i = nI (F i)) ∧ (∀ i, 2 ^ z ≤ i → i < 64 → U i = 0 ∧ F i = 0) ∧ sN U 64 = N ∧ w 7 0 = nI (sN F 64) ∧ w 6 0 = nI c ∧ c + cN U 64 ≤ N
theorem DInv.use {z N : Nat} {w : RV} (h : DInv z N w) {j : Nat} (hj : j < 2 ^ z) (hz : z ≤ 6) (hN : N < 2 ^ 30) (pl tk mid : Int32) : DInv z (N + 1) (w_X0_use w (nI j) pl tk mid) := by
  obtain ⟨U, F, c, h1, h2, h3, h4, h5, h6⟩ := h
  have hj64 : j < 64 := Nat.lt_of_lt_of_le hj (Nat.le_trans (Nat.pow_le_pow_right (by decide) hz) (by decide))
  have ej : (nI j).toNatClampNeg = j := nI_clamp (by omega)
  have hU : U j ≤ N := by rw [← h3]; exact sN_mem 64 hj64
  have e3 : w_X0_use w (nI j) pl tk mid 3 = upd (w 3) j (w 3 j + 1) := by unfold w_X0_use; rw [ej]; rfl
  have e4 : w_X0_use w (nI j) pl tk mid 4 = (if (if (w 1 j) < mid then (0 : Int32) else (1 : Int32)) = tk then upd (w 4) j (w 4 j + 1) else w 4) := by unfold w_X0_use; rw [ej]; rfl
  have e6 : w_X0_use w (nI j) pl tk mid 6 0 = (if (w 3 j) ≤ 0 then w 6 0 else (if w 2 j = pl then w 6 0 else w 6 0 + 1)) := by unfold w_X0_use; rw [ej]; rfl
  have e7 : w_X0_use w (nI j) pl tk mid 7 0 = (if (if (w 1 j) < mid then (0 : Int32) else (1 : Int32)) = tk then w 7 0 + 1 else w 7 0) := by unfold w_X0_use; rw [ej]; rfl
  have key : ∃ F' : Nat → Nat, (∀ i, i < 64 → w_X0_use w (nI j) pl tk mid 4 i = nI (F' i)) ∧ (∀ i, 2 ^ z ≤ i → i < 64 → F' i = 0) ∧ w_X0_use w (nI j) pl tk mid 7 0 = nI (sN F' 64) := by
    rw [e4, e7]
    by_cases hc : (if (w 1 j) < mid then (0 : Int32) else (1 : Int32)) = tk
    · rw [if_pos hc, if_pos hc]
      refine ⟨up1 F j, fun i hi => ?_, fun i hz1 hi => ?_, ?_⟩
      · unfold upd up1
        by_cases hij : i = j
        · rw [if_pos hij, if_pos hij, hij, (h1 j hj64).2, nI_1]
        · rw [if_neg hij, if_neg hij]; exact (h1 i hi).2
      · unfold up1
        rw [if_neg (Nat.ne_of_gt (Nat.lt_of_lt_of_le hj hz1))]
        exact (h2 i hz1 hi).2
      · rw [h4, nI_1, sN_up, if_pos hj64]
    · rw [if_neg hc, if_neg hc]
      exact ⟨F, fun i hi => (h1 i hi).2, fun i a b => (h2 i a b).2, h4⟩
  have key2 : ∃ c' : Nat, w_X0_use w (nI j) pl tk mid 6 0 = nI c' ∧ c' + cN (up1 U j) 64 ≤ N + 1 := by
    rw [e6, (h1 j hj64).1, cN_up]
    by_cases h0 : U j = 0
    · refine ⟨c, ?_, ?_⟩
      · rw [h0, if_pos (by rw [nI_0]; exact Int32.le_refl _)]; exact h5
      · rw [if_pos ⟨hj64, h0⟩]; omega
    · rw [if_neg (nI_nle (by omega) (by omega)), if_neg (show ¬ (j < 64 ∧ U j = 0) from fun q => h0 q.2)]
      by_cases hp : w 2 j = pl
      · rw [if_pos hp]; exact ⟨c, h5, by omega⟩
      · rw [if_neg hp]; exact ⟨c + 1, by rw [h5, nI_1], by omega⟩
  obtain ⟨F', a1, a2, a3⟩ := key
  obtain ⟨c', b1, b2⟩ := key2
  refine ⟨up1 U j, F', c', fun i hi => ⟨?_, a1 i hi⟩, fun i hz1 hi => ⟨?_, a2 i hz1 hi⟩, ?_, a3, b1, b2⟩
  · rw [e3]
    unfold upd up1
    by_cases hij : i = j
    · rw [if_pos hij, if_pos hij, hij, (h1 j hj64).1, nI_1]
    · rw [if_neg hij, if_neg hij]; exact (h1 i hi).1
  · unfold up1
    rw [if_neg (Nat.ne_of_gt (Nat.lt_of_lt_of_le hj hz1))]
    exact (h2 i hz1 hi).1
  · rw [sN_up, if_pos hj64, h3]
theorem DInv.same {z N : Nat} {w w' : RV} (h : DInv z N w) (e3 : w' 3 = w 3) (e4 : w' 4 = w 4) (e6 : w' 6 0 = w 6 0) (e7 : w' 7 0 = w 7 0) : DInv z N w' := by
  obtain ⟨U, F, c, h1, h2, h3, h4, h5, h6⟩ := h
  exact ⟨U, F, c, by rw [e3, e4]; exact h1, h2, h3, by rw [e7]; exact h4, by rw [e6]; exact h5, h6⟩
theorem DInv.anew {z : Nat} (w : RV) (mid : Int32) : DInv z 0 (w_X0_beginAnew w mid) :=
  ⟨fun _ => 0, fun _ => 0, 0, fun i _ => ⟨nI_0.symm, nI_0.symm⟩, fun _ _ _ => ⟨rfl, rfl⟩, by decide, (show (0 : Int32) = nI (sN (fun _ => 0) 64) from by rw [show sN (fun _ => 0) 64 = 0 by decide]; exact nI_0.symm), nI_0.symm, by decide⟩
theorem note_lt (w : RV) (pl : Int32) {z : Nat} (h1 : 2 ≤ z) (h2 : z ≤ 6) : ∃ j, j < 2 ^ z ∧ r_X0_noteFor w pl (nI z) = nI j := by
  unfold r_X0_noteFor
  have hk : z = 2 ∨ z = 3 ∨ z = 4 ∨ z = 5 ∨ z = 6 := by omega
  rcases hk with rfl | rfl | rfl | rfl | rfl
  · exact pk_andE _ 2 (by decide)
  · exact pk_andE _ 3 (by decide)
  · exact pk_andE _ 4 (by decide)
  · exact pk_andE _ 5 (by decide)
  · exact pk_andE _ 6 (by decide)
theorem noteS_lt (v : SV) (d pl : Int32) {z : Nat} (h1 : 2 ≤ z) (h2 : z ≤ 6) (hz : v.1 0 0 = nI z) : ∃ j, j < 2 ^ z ∧ r_X3_noteFor v d pl = nI j := by
  unfold r_X3_noteFor
  rw [hz]
  split
  · exact note_lt _ _ h1 h2
  · exact note_lt _ _ h1 h2
/-! states -/
def SetOK (z m q : Nat) (o : RV) : Prop := (2 ≤ z ∧ z ≤ 6 ∧ o 0 0 = nI z) ∧ (1 ≤ m ∧ m ≤ 4 ∧ o 0 1 = nI m) ∧ (q ≤ 9 ∧ o 0 2 = nI q)
def KInv (q N : Nat) (o : RV) : Prop := ∃ (G T R : Nat → Nat) (s L : Nat), (∀ p, p < 26 → (o 2 p = nI (G p) ∧ o 3 p = nI (T p) ∧ o 4 p = nI (R p)) ∧ T p ≤ G p ∧ R p ≤ G p) ∧ sN G 26 = N ∧ o 5 0 = nI N ∧ o 6 0 = nI (sN R 26) ∧ o 7 0 = nI (sN R 26) - nI (q * (N - sN R 26)) ∧ o 8 0 = nI s ∧ o 9 0 = nI L ∧ s ≤ L ∧ L ≤ sN R 26
def SInv (N : Nat) (v : SV) : Prop := ∃ z m q : Nat, SetOK z m q v.1 ∧ KInv q N v.1 ∧ DInv z N v.2.1 ∧ DInv z N v.2.2
theorem KInv.count {q N : Nat} {v : SV} (h : KInv q N v.1) (hq : v.1 0 2 = nI q) {p : Nat} (hp : p < 26) (hN : N < 2 ^ 30) (tk gs : Int32) : KInv q (N + 1) (w_X3_countGuess v (nI p) tk gs).1 := by
  obtain ⟨G, T, R, s, L, h1, h2, h3, h4, h5, h6, h7, h8, h9⟩ := h
  have ep : (nI p).toNatClampNeg = p := nI_clamp (by omega)
  have hRN : sN R 26 ≤ N := by rw [← h2]; exact sN_le 26 (fun j hj => (h1 j hj).2.2)
  have hGp := (h1 p hp).1.1
  have hTp := (h1 p hp).1.2.1
  have hRp := (h1 p hp).1.2.2
  have e2 : (w_X3_countGuess v (nI p) tk gs).1 2 = upd (v.1 2) p (v.1 2 p + 1) := by unfold w_X3_countGuess; rw [ep]; rfl
  have e3 : (w_X3_countGuess v (nI p) tk gs).1 3 = if tk = 0 then v.1 3 else upd (v.1 3) p (v.1 3 p + 1) := by unfold w_X3_countGuess; rw [ep]; rfl
  have e4 : (w_X3_countGuess v (nI p) tk gs).1 4 = if gs = 0 then v.1 4 else upd (v.1 4) p (v.1 4 p + 1) := by unfold w_X3_countGuess; rw [ep]; rfl
  have e5 : (w_X3_countGuess v (nI p) tk gs).1 5 0 = v.1 5 0 + 1 := rfl
  have e6 : (w_X3_countGuess v (nI p) tk gs).1 6 0 = if gs = 0 then v.1 6 0 else v.1 6 0 + 1 := rfl
  have e7 : (w_X3_countGuess v (nI p) tk gs).1 7 0 = if gs = 0 then v.1 7 0 - v.1 0 2 else v.1 7 0 + 1 := rfl
  have e8 : (w_X3_countGuess v (nI p) tk gs).1 8 0 = if gs = 0 then 0 else v.1 8 0 + 1 := rfl
  have e9 : (w_X3_countGuess v (nI p) tk gs).1 9 0 = if gs = 0 then v.1 9 0 else if v.1 9 0 < v.1 8 0 + 1 then v.1 8 0 + 1 else v.1 9 0 := rfl
  generalize w_X3_countGuess v (nI p) tk gs = u at e2 e3 e4 e5 e6 e7 e8 e9 ⊢
  have up_row : ∀ (f : Nat → Int32) (F : Nat → Nat), (∀ j, j < 26 → f j = nI (F j)) → ∀ j, j < 26 → upd f p (f p + 1) j = nI (up1 F p j) := by
    intro f F hf j hj
    unfold upd up1
    by_cases hij : j = p
    · rw [if_pos hij, if_pos hij, hij, hf p hp, nI_1]
    · rw [if_neg hij, if_neg hij]; exact hf j hj
  have kT : ∃ T' : Nat → Nat, (∀ j, j < 26 → u.1 3 j = nI (T' j)) ∧ ∀ j, j < 26 → T' j ≤ up1 G p j := by
    rw [e3]
    by_cases ht : tk = 0
    · rw [if_pos ht]
      refine ⟨T, fun j hj => (h1 j hj).1.2.1, fun j hj => ?_⟩
      have := (h1 j hj).2.1
      unfold up1
      split <;> omega
    · rw [if_neg ht]
      refine ⟨up1 T p, up_row _ T (fun j hj => (h1 j hj).1.2.1), fun j hj => ?_⟩
      have := (h1 j hj).2.1
      unfold up1
      split <;> omega
  obtain ⟨T', t1, t2⟩ := kT
  by_cases hg : gs = 0
  · rw [if_pos hg] at e4 e6 e7 e8 e9
    refine ⟨up1 G p, T', R, 0, L, fun j hj => ⟨⟨by rw [e2]; exact up_row _ G (fun j hj => (h1 j hj).1.1) j hj, t1 j hj, by rw [e4]; exact (h1 j hj).1.2.2⟩, t2 j hj, ?_⟩, ?_, ?_, ?_, ?_, ?_, ?_, Nat.zero_le _, h9⟩
    · have := (h1 j hj).2.2
      unfold up1
      split <;> omega
    · rw [sN_up, if_pos hp, h2]
    · rw [e5, h3, nI_1]
    · rw [e6, h4]
    · rw [e7, h5, hq, i_s2, nI_add]
      congr 2
      rw [show N + 1 - sN R 26 = (N - sN R 26) + 1 by omega, Nat.mul_add, Nat.mul_one]
    · rw [e8]; exact nI_0.symm
    · rw [e9, h7]
  · rw [if_neg hg] at e4 e6 e7 e8 e9
    have hR' : sN (up1 R p) 26 = sN R 26 + 1 := by rw [sN_up, if_pos hp]
    refine ⟨up1 G p, T', up1 R p, s + 1, if L < s + 1 then s + 1 else L, fun j hj => ⟨⟨by rw [e2]; exact up_row _ G (fun j hj => (h1 j hj).1.1) j hj, t1 j hj, by rw [e4]; exact up_row _ R (fun j hj => (h1 j hj).1.2.2) j hj⟩, t2 j hj, ?_⟩, ?_, ?_, ?_, ?_, ?_, ?_, ?_, ?_⟩
    · have := (h1 j hj).2.2
      unfold up1
      split <;> omega
    · rw [sN_up, if_pos hp, h2]
    · rw [e5, h3, nI_1]
    · rw [e6, h4, nI_1, hR']
    · rw [e7, h5, hR', i_s1, nI_1]
      congr 3
      omega
    · rw [e8, h6, nI_1]
    · rw [e9, h6, h7, nI_1]
      by_cases hL : L < s + 1
      · rw [if_pos hL, if_pos (nI_lt hL (by omega))]
      · rw [if_neg hL, if_neg (nI_nlt (by omega) (by omega))]
    · split <;> omega
    · rw [hR']; split <;> omega
theorem KInv.same {q N : Nat} {o o' : RV} (h : KInv q N o) (e2 : o' 2 = o 2) (e3 : o' 3 = o 3) (e4 : o' 4 = o 4) (e5 : o' 5 0 = o 5 0) (e6 : o' 6 0 = o 6 0) (e7 : o' 7 0 = o 7 0) (e8 : o' 8 0 = o 8 0) (e9 : o' 9 0 = o 9 0) : KInv q N o' := by
  obtain ⟨G, T, R, s, L, h1, h2, h3, h4, h5, h6, h7, h8, h9⟩ := h
  exact ⟨G, T, R, s, L, by rw [e2, e3, e4]; exact h1, h2, by rw [e5]; exact h3, by rw [e6]; exact h4, by rw [e7]; exact h5, by rw [e8]; exact h6, by rw [e9]; exact h7, h8, h9⟩
theorem KInv.go1 {q N : Nat} {v : SV} (h : KInv q N v.1) (hq : v.1 0 2 = nI q) {p : Nat} (hp : p < 26) (hN : N < 2 ^ 30) (tk : Int32) : KInv q (N + 1) (w_go1 v (nI p) tk).1 := by
  unfold w_go1
  split
  · exact h.count hq hp hN _ _
  · exact (h.count hq hp hN tk _).same rfl rfl rfl rfl rfl rfl rfl rfl
theorem go1_snd (v : SV) (pl tk : Int32) : (w_go1 v pl tk).2 = v.2 := by
  unfold w_go1
  split <;> rfl
theorem SInv.go {N : Nat} {v : SV} (h : SInv N v) {p : Nat} (hp : p < 26) (hN : N < 2 ^ 30) (tk : Int32) : SInv (N + 1) (w_X3_go v (nI p) tk) := by
  obtain ⟨z, m, q, hs, hK, hD1, hD2⟩ := h
  have hs0 := hs
  obtain ⟨⟨z1, z2, z3⟩, ⟨m1, m2, m3⟩, q1, q2⟩ := hs
  have hK1 := hK.go1 q2 hp hN tk
  have e0 := go1_set v (nI p) tk
  have e1 := go1_snd v (nI p) tk
  refine ⟨z, m, q, ?_, ?_, ?_, ?_⟩
  · show SetOK z m q (w_go1 v (nI p) tk).1
    unfold SetOK
    rw [e0]
    exact hs0
  · exact hK1
  · show DInv z (N + 1) (w_X0_changePath (w_X0_use (w_go1 v (nI p) tk).2.1 (r_X3_noteFor (w_go1 v (nI p) tk) (0 : Int32) (nI p)) (nI p) tk ((w_go1 v (nI p) tk).1 0 1)) (nI p) tk)
    obtain ⟨j, hj, ej⟩ := noteS_lt (w_go1 v (nI p) tk) 0 (nI p) z1 z2 (by rw [e0]; exact z3)
    rw [ej, e1]
    exact (hD1.use hj z2 hN _ _ _).same rfl rfl rfl rfl
  · show DInv z (N + 1) (w_X0_changePath (w_X0_use (w_go1 v (nI p) tk).2.2 (r_X3_noteFor ((w_go1 v (nI p) tk).1, (w_X0_changePath (w_X0_use ((w_go1 v (nI p) tk).2.1) (r_X3_noteFor (w_go1 v (nI p) tk) (0 : Int32) (nI p)) (nI p) tk (((w_go1 v (nI p) tk).1 0) 1)) (nI p) tk), (w_go1 v (nI p) tk).2.2) (1 : Int32) (nI p)) (nI p) tk ((w_go1 v (nI p) tk).1 0 1)) (nI p) tk)
    obtain ⟨j, hj, ej⟩ := noteS_lt ((w_go1 v (nI p) tk).1, (w_X0_changePath (w_X0_use ((w_go1 v (nI p) tk).2.1) (r_X3_noteFor (w_go1 v (nI p) tk) (0 : Int32) (nI p)) (nI p) tk (((w_go1 v (nI p) tk).1 0) 1)) (nI p) tk), (w_go1 v (nI p) tk).2.2) 1 (nI p) z1 z2 (by show (w_go1 v (nI p) tk).1 0 0 = nI z; rw [e0]; exact z3)
    rw [ej, e1]
    exact (hD2.use hj z2 hN _ _ _).same rfl rfl rfl rfl
theorem SInv.goes {N : Nat} {v : SV} (h : SInv N v) {x : RV} (hx : stepok x) (hN : N + 300 < 2 ^ 30) : ∀ n, n ≤ stepsOf x → SInv (N + n) (goN x n v)
  | 0, _ => h
  | n + 1, hn => by
    have h300 : stepsOf x ≤ 300 := Nat.min_le_right _ _
    have ih := SInv.goes h hx hN n (by omega)
    obtain ⟨p, hp, ep⟩ := vp_in_of (hx n (by omega)) (by decide)
    show SInv (N + n + 1) (w_X3_go (goN x n v) (x 1 n / 2) (if (x 1 n - x 1 n / 2 * 2) = 1 then 1 else 0))
    rw [ep]
    exact ih.go hp (by omega) _
theorem SInv.anew {v : SV} {z m q : Nat} (h : SetOK z m q v.1) : SInv 0 (w_X3_beginAnew v) := by
  refine ⟨z, m, q, h, ⟨fun _ => 0, fun _ => 0, fun _ => 0, 0, 0, fun p _ => ⟨⟨nI_0.symm, nI_0.symm, nI_0.symm⟩, Nat.le_refl _, Nat.le_refl _⟩, by decide, nI_0.symm, ?_, ?_, nI_0.symm, nI_0.symm, Nat.le_refl _, Nat.zero_le _⟩, DInv.anew _ _, DInv.anew _ _⟩
  · rw [show sN (fun _ => 0) 26 = 0 by decide]; exact nI_0.symm
  · rw [show sN (fun _ => 0) 26 = 0 by decide, Nat.sub_self, Nat.mul_zero, nI_0]; rfl
theorem SInv.set {N : Nat} {v : SV} (h : SInv N v) : ∃ z m q : Nat, SetOK z m q v.1 := by
  obtain ⟨z, m, q, h, _⟩ := h
  exact ⟨z, m, q, h⟩
theorem SInv.desk {N : Nat} {v : SV} (h : SInv N v) (d what val2 : Int32) : SInv 0 (w_X3_changeDesk v d what val2) := by
  obtain ⟨z, m, q, h⟩ := h.set
  unfold w_X3_changeDesk
  split
  · exact SInv.anew h
  · exact SInv.anew h
theorem SInv.both {N : Nat} {v : SV} (h : SInv N v) {what val2 : Int32} (hc : ¬ r_X5_isCommonSetting what val2 = 0) : SInv 0 (w_X3_changeBoth v what val2) := by
  obtain ⟨z, m, q, ⟨z1, z2, z3⟩, ⟨m1, m2, m3⟩, q1, q2⟩ := h.set
  obtain ⟨k, hk, ek⟩ := vp_in_of (cset_of hc) (by decide)
  subst ek
  unfold r_X5_isCommonSetting at hc
  split at hc
  · exact absurd rfl hc
  · split at hc
    · exact absurd rfl hc
    · split at hc
      · exact absurd rfl hc
      · split at hc
        · exact absurd rfl hc
        · rename_i h3 h4
          have hk3 : k = 0 ∨ k = 1 ∨ k = 2 := by omega
          have nat_of : ∀ (a b : Nat), b < 2 ^ 31 → ¬ val2 < nI a → ¬ nI b < val2 → a < 2 ^ 31 → ∃ n, a ≤ n ∧ n ≤ b ∧ val2 = nI n := by
            intro a b hb g1 g2 ha
            have f1 : ¬ val2.toInt < a := fun q => g1 ((fa_lt' val2 (nI a)).mpr (by rw [nI_toInt ha]; exact q))
            have f2 : ¬ (b : Int) < val2.toInt := fun q => g2 ((fa_lt' (nI b) val2).mpr (by rw [nI_toInt hb]; exact q))
            refine ⟨val2.toInt.toNat, by omega, by omega, ?_⟩
            apply Int32.toInt_inj.mp
            rw [nI_toInt (by omega)]
            omega
          rcases hk3 with rfl | rfl | rfl
          · obtain ⟨n, n1, n2, n3⟩ := nat_of 2 6 (by decide) h3 h4 (by decide)
            exact SInv.anew (z := n) (m := m) (q := q) ⟨⟨n1, n2, n3⟩, ⟨m1, m2, m3⟩, q1, q2⟩
          · obtain ⟨n, n1, n2, n3⟩ := nat_of 1 4 (by decide) h3 h4 (by decide)
            exact SInv.anew (z := z) (m := n) (q := q) ⟨⟨z1, z2, z3⟩, ⟨n1, n2, n3⟩, q1, q2⟩
          · obtain ⟨n, n1, n2, n3⟩ := nat_of 0 9 (by decide) h3 h4 (by decide)
            exact SInv.anew (z := z) (m := m) (q := n) ⟨⟨z1, z2, z3⟩, ⟨m1, m2, m3⟩, n2, n3⟩
theorem SInv.szo {N : Nat} {v : SV} (h : SInv N v) : szok (v.1 0 0) := by
  obtain ⟨z, m, q, ⟨⟨z1, z2, z3⟩, _⟩, _⟩ := h
  exact ⟨z, z1, z2, z3⟩
