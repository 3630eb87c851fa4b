/-! ===== Text ===== -/
theorem in_lt {y : Int32} {N : Nat} {B : Int32} (h0 : ¬ y < 0) (h1 : y < B) (hB : B.toInt = N) : vp_in y N := by
  intro q
  have e0 : ¬ y.toInt < 0 := fun h => h0 ((fa_lt' y 0).mpr h)
  have e1 := (fa_lt' y B).mp h1
  rw [hB] at e1
  rcases q with q | q
  · exact h0 q
  · have h2 := tncn y
    omega
theorem in_nle {y : Int32} {N : Nat} {B : Int32} (h0 : ¬ y < 0) (h1 : ¬ B ≤ y) (hB : B.toInt = N) : vp_in y N := by
  refine in_lt h0 ?_ hB
  have h2 : ¬ B.toInt ≤ y.toInt := fun h => h1 ((fa_le' B y).mpr h)
  exact (fa_lt' y B).mpr (by omega)
/-- what the open parentheses may still bring, by levels -/
def pw (s : Nat → Nat) : Nat → Nat → Nat
  | 0, k => k
  | o + 1, k => (k - s o) * 9 ^ (o + 1) + pw s o (s o)
def mono (s : Nat → Nat) : Nat → Nat → Prop
  | 0, _ => True
  | o + 1, k => s o ≤ k ∧ mono s o (s o)
def TI (n : Nat) (x : RV) : Prop := ∃ (o k : Nat) (s : Nat → Nat), o ≤ 4 ∧ x 5 0 = nI o ∧ x 4 0 = nI k ∧ (∀ j, j < o → x 2 j = nI (s j)) ∧ mono s o k ∧ pw s o k ≤ 6561 * n ∧ (∃ g, g < 26 ∧ x 6 0 = nI g) ∧ ∀ j, j < k → j < 300 → vp_in (x 1 j / 2) 26
/-- a text as it lies between calls -/
def Tok (x : RV) : Prop := (∃ n, n ≤ 80 ∧ x 3 0 = nI n) ∧ ∃ g, g < 26 ∧ x 6 0 = nI g
theorem pw_ge {s : Nat → Nat} : ∀ {o k : Nat}, mono s o k → k ≤ pw s o k
  | 0, k, _ => Nat.le_refl k
  | o + 1, k, h => by
    have h1 := pw_ge h.2
    have h2 : 1 ≤ 9 ^ (o + 1) := Nat.one_le_pow _ _ (by decide)
    have h3 : (k - s o) * 1 ≤ (k - s o) * 9 ^ (o + 1) := Nat.mul_le_mul_left _ h2
    have h4 := h.1
    show k ≤ (k - s o) * 9 ^ (o + 1) + pw s o (s o)
    omega
theorem TI.small {n : Nat} {x : RV} (h : TI n x) (hn : n ≤ 80) : ∃ (o k : Nat) (s : Nat → Nat), o ≤ 4 ∧ x 5 0 = nI o ∧ x 4 0 = nI k ∧ (∀ j, j < o → x 2 j = nI (s j)) ∧ mono s o k ∧ k ≤ 524880 := by
  obtain ⟨o, k, s, h1, h2, h3, h4, h5, h6, -⟩ := h
  have := pw_ge h5
  exact ⟨o, k, s, h1, h2, h3, h4, h5, by omega⟩
theorem TI.cnt {n : Nat} {x : RV} (h : TI n x) (hn : n ≤ 80) : ¬ x 4 0 < 0 := by
  obtain ⟨o, k, s, h1, h2, h3, h4, h5, h6⟩ := h.small hn
  rw [h3]
  exact nI_pos (by omega)
theorem TI.opn {n : Nat} {x : RV} (h : TI n x) : ¬ x 5 0 < 0 := by
  obtain ⟨o, k, s, h1, h2, h3, -⟩ := h
  rw [h2]
  exact nI_pos (by omega)

def r_X4_add (x : RV) (ch : Int32) : Int32 := (if (x 3 0) < (80 : Int32) then (1 : Int32) else (0 : Int32))
def w_X4_add (x : RV) (ch : Int32) : RV := (if (x 3 0) < (80 : Int32) then (mkT (upd (x 0) (x 3 0).toNatClampNeg ch) (x 1) (x 2) ((x 3 0) + (1 : Int32)) (x 4 0) (x 5 0) (x 6 0) (x 7 0)) else x)
abbrev rX4_add : Room := { frames := 0, cells := 0, slots := 0, locals := 0 }
theorem inX4_add_X4 : ∀ w ∈ u_ws RX4 TX4 8, w ∈ wsX4_add := by decide +kernel
theorem zn_X4_add (x : RV) (ch : Int32) : narrow .boolean (.int (r_X4_add x ch)) = .int (r_X4_add x ch) := by
  unfold r_X4_add
  repeat' split
  all_goals rfl
set_option maxHeartbeats 4000000 in
set_option maxRecDepth 100000 in
theorem c_X4_add (l : Launch) (D : va_G) (cy : Nat → ClassId) (a : Nat → Nat) (x : RV) (ch : Int32) (sz : Nat) (hlen : ¬ x 3 0 < 0) : CI l yX4_add wsX4_add rX4_add D cy [.ref (a 0), .int ch] (cT cy a x) sz (r_X4_add x ch) (cT cy a (w_X4_add x ch)) 0 0 := by
  refine st_i (ty := .boolean) (cc := cX4_add) (maxL := 2) (by decide) rfl (zn_X4_add x ch) (Nat.le_of_ble_eq_true rfl) ?_
  intro pp e s m below meth c A Q ls hx hb hts hown hml hlocks hsz hP hK hD hE hA hl hret
  subst hsz
  have hown : s.vm.findClass RX4 = some m.cls := hown
  have hl : lv_has ls 2 [(0, .ref (a 0)), (1, .int ch)] := hl
  obtain ⟨H, hH⟩ : ∃ H, H = s.heap := ⟨_, rfl⟩
  rw [← hH] at hP ⊢
  have hS : va_S A s.heap H [] := by rw [hH]; exact va_S.rf
  obtain ⟨locs, hlo⟩ : ∃ locs : List Loc, locs = [] := ⟨_, rfl⟩
  rw [← hlo] at hS ⊢
  refine lv_aload_n hx hb dX4_add_0 rfl (lv_at hl 0 rfl) ?_
  refine va_get (D := D) (ci := 3) (v := .int (x 3 0)) (C := RX4) (T := TX4) (N := 8) hx hb hts inX4_add_X4 hown hK hP 0 rfl rfl 1 (by decide) (hts _ (List.mem_of_getElem? (i := 1) rfl)) (fun _ h9 => h9) rfl dX4_add_1 ?_
  refine lv_bipush (v := 80) hx hb dX4_add_4 (by decide) ?_
  refine lv_icmp_lt (tgt := 11) hx hb dX4_add_6 (by decide) (fun c_1 => ?_) (fun c_1 => ?_)
  · refine lv_aload_n hx hb dX4_add_11 rfl (lv_at hl 0 rfl) ?_
    refine va_get (D := D) (ci := 3) (v := .ref (a 1)) (C := RX4) (T := TX4) (N := 8) hx hb hts inX4_add_X4 hown hK hP 0 rfl rfl 0 (by decide) (hts _ (List.mem_of_getElem? (i := 2) rfl)) (fun _ h9 => h9) rfl dX4_add_12 ?_
    refine lv_aload_n hx hb dX4_add_15 rfl (lv_at hl 0 rfl) ?_
    refine va_get (D := D) (ci := 3) (v := .int (x 3 0)) (C := RX4) (T := TX4) (N := 8) hx hb hts inX4_add_X4 hown hK hP 0 rfl rfl 1 (by decide) (hts _ (List.mem_of_getElem? (i := 1) rfl)) (fun _ h9 => h9) rfl dX4_add_16 ?_
    refine lv_iload_n hx hb dX4_add_19 rfl (lv_at hl 1 rfl) ?_
    refine x_iast (j := (x 3 0).toNatClampNeg) hx hb hK hP hD hS 1 0 rfl rfl rfl (in_lt hlen c_1 rfl) dX4_add_20 (fun H locs hP hD hS => ?_)
    have hP : va_P D vwCl (cT cy a (mkT (upd (x 0) (x 3 0).toNatClampNeg ch) (x 1) (x 2) (x 3 0) (x 4 0) (x 5 0) (x 6 0) (x 7 0))) H := hP
    have hD : va_D A (cT cy a (mkT (upd (x 0) (x 3 0).toNatClampNeg ch) (x 1) (x 2) (x 3 0) (x 4 0) (x 5 0) (x 6 0) (x 7 0))) := hD
    refine lv_aload_n hx hb dX4_add_21 rfl (lv_at hl 0 rfl) ?_
    refine lv_dup hx hb dX4_add_22 rfl ?_
    refine va_get (D := D) (ci := 3) (v := .int (x 3 0)) (C := RX4) (T := TX4) (N := 8) hx hb hts inX4_add_X4 hown hK hP 0 rfl rfl 1 (by decide) (hts _ (List.mem_of_getElem? (i := 1) rfl)) (fun _ h9 => h9) rfl dX4_add_23 ?_
    refine lv_iconst (v := 1) hx hb dX4_add_26 (by decide) ?_
    refine lv_iadd hx hb dX4_add_27 ?_
    refine va_put (D := D) (ci := 3) (v := .int ((x 3 0) + (1 : Int32))) (ty := .int) (C := RX4) (T := TX4) (N := 8) hx hb hts inX4_add_X4 tyX4 tyX4_ok nmX4 hown hK hP hD hS 0 rfl rfl 1 (by decide) (hts _ (List.mem_of_getElem? (i := 1) rfl)) (fun _ h9 => h9) rfl (by decide +kernel) rfl rfl (Nat.le_of_ble_eq_true rfl) dX4_add_28 (fun H locs hP hD hS => ?_)
    have hP : va_P D vwCl (cT cy a (mkT (upd (x 0) (x 3 0).toNatClampNeg ch) (x 1) (x 2) ((x 3 0) + (1 : Int32)) (x 4 0) (x 5 0) (x 6 0) (x 7 0))) H := hP
    have hD : va_D A (cT cy a (mkT (upd (x 0) (x 3 0).toNatClampNeg ch) (x 1) (x 2) ((x 3 0) + (1 : Int32)) (x 4 0) (x 5 0) (x 6 0) (x 7 0))) := hD
    refine lv_iconst (v := 1) hx hb dX4_add_31 (by decide) ?_
    have hr9 : (1 : Int32) = (r_X4_add x ch) := by unfold r_X4_add; simp only [if_pos c_1, if_true, if_false]
    have hw9 : (w_X4_add x ch) = (mkT (upd (x 0) (x 3 0).toNatClampNeg ch) (x 1) (x 2) ((x 3 0) + (1 : Int32)) (x 4 0) (x 5 0) (x 6 0) (x 7 0)) := by unfold w_X4_add; simp only [if_pos c_1, if_true, if_false]
    exact hret _ H locs _ ls hr9 (by rw [hw9]; exact hP) (by rw [hw9]; exact hD) hS dX4_add_32
  · refine lv_iconst (v := 0) hx hb dX4_add_9 (by decide) ?_
    have hr9 : (0 : Int32) = (r_X4_add x ch) := by unfold r_X4_add; simp only [if_neg c_1, if_true, if_false]
    have hw9 : (w_X4_add x ch) = x := by unfold w_X4_add; simp only [if_neg c_1, if_true, if_false]
    exact hret _ H locs _ ls hr9 (by rw [hw9]; exact hP) (by rw [hw9]; exact hD) hS dX4_add_10

def r_X4_readItem (x : RV) (ch : Int32) : Int32 := (if ch < (97 : Int32) then (if ch = (40 : Int32) then (if (4 : Int32) ≤ (x 5 0) then (if ch = (41 : Int32) then (if (x 5 0) ≤ 0 then (0 : Int32) else (if (x 7 0) = (1 : Int32) then (1 : Int32) else (0 : Int32))) else (0 : Int32)) else (1 : Int32)) else (if ch = (41 : Int32) then (if (x 5 0) ≤ 0 then (0 : Int32) else (if (x 7 0) = (1 : Int32) then (1 : Int32) else (0 : Int32))) else (0 : Int32))) else (if (122 : Int32) < ch then (if ch = (40 : Int32) then (if (4 : Int32) ≤ (x 5 0) then (if ch = (41 : Int32) then (if (x 5 0) ≤ 0 then (0 : Int32) else (if (x 7 0) = (1 : Int32) then (1 : Int32) else (0 : Int32))) else (0 : Int32)) else (1 : Int32)) else (if ch = (41 : Int32) then (if (x 5 0) ≤ 0 then (0 : Int32) else (if (x 7 0) = (1 : Int32) then (1 : Int32) else (0 : Int32))) else (0 : Int32))) else (1 : Int32)))
def w_X4_readItem (x : RV) (ch : Int32) : RV := (if ch < (97 : Int32) then (if ch = (40 : Int32) then (if (4 : Int32) ≤ (x 5 0) then (if ch = (41 : Int32) then (if (x 5 0) ≤ 0 then x else (if (x 7 0) = (1 : Int32) then (mkT (x 0) (x 1) (x 2) (x 3 0) (x 4 0) (x 5 0) (x 6 0) (3 : Int32)) else x)) else x) else (mkT (x 0) (x 1) (upd (x 2) (x 5 0).toNatClampNeg (x 4 0)) (x 3 0) (x 4 0) ((x 5 0) + (1 : Int32)) (x 6 0) (0 : Int32))) else (if ch = (41 : Int32) then (if (x 5 0) ≤ 0 then x else (if (x 7 0) = (1 : Int32) then (mkT (x 0) (x 1) (x 2) (x 3 0) (x 4 0) (x 5 0) (x 6 0) (3 : Int32)) else x)) else x)) else (if (122 : Int32) < ch then (if ch = (40 : Int32) then (if (4 : Int32) ≤ (x 5 0) then (if ch = (41 : Int32) then (if (x 5 0) ≤ 0 then x else (if (x 7 0) = (1 : Int32) then (mkT (x 0) (x 1) (x 2) (x 3 0) (x 4 0) (x 5 0) (x 6 0) (3 : Int32)) else x)) else x) else (mkT (x 0) (x 1) (upd (x 2) (x 5 0).toNatClampNeg (x 4 0)) (x 3 0) (x 4 0) ((x 5 0) + (1 : Int32)) (x 6 0) (0 : Int32))) else (if ch = (41 : Int32) then (if (x 5 0) ≤ 0 then x else (if (x 7 0) = (1 : Int32) then (mkT (x 0) (x 1) (x 2) (x 3 0) (x 4 0) (x 5 0) (x 6 0) (3 : Int32)) else x)) else x)) else (mkT (x 0) (x 1) (x 2) (x 3 0) (x 4 0) (x 5 0) (ch - (97 : Int32)) (2 : Int32))))
abbrev rX4_readItem : Room := { frames := 0, cells := 0, slots := 0, locals := 0 }
theorem inX4_readItem_X4 : ∀ w ∈ u_ws RX4 TX4 8, w ∈ wsX4_readItem := by decide +kernel
theorem zn_X4_readItem (x : RV) (ch : Int32) : narrow .boolean (.int (r_X4_readItem x ch)) = .int (r_X4_readItem x ch) := by
  unfold r_X4_readItem
  repeat' split
  all_goals rfl
set_option maxHeartbeats 4000000 in
set_option maxRecDepth 100000 in
theorem c_X4_readItem (l : Launch) (D : va_G) (cy : Nat → ClassId) (a : Nat → Nat) (x : RV) (ch : Int32) (sz : Nat) (ho : ¬ x 5 0 < 0) : CI l yX4_readItem wsX4_readItem rX4_readItem D cy [.ref (a 0), .int ch] (cT cy a x) sz (r_X4_readItem x ch) (cT cy a (w_X4_readItem x ch)) 0 0 := by
  refine st_i (ty := .boolean) (cc := cX4_readItem) (maxL := 2) (by decide) rfl (zn_X4_readItem x ch) (Nat.le_of_ble_eq_true rfl) ?_
  intro pp e s m below meth c A Q ls hx hb hts hown hml hlocks hsz hP hK hD hE hA hl hret
  subst hsz
  have hown : s.vm.findClass RX4 = some m.cls := hown
  have hl : lv_has ls 2 [(0, .ref (a 0)), (1, .int ch)] := hl
  obtain ⟨H, hH⟩ : ∃ H, H = s.heap := ⟨_, rfl⟩
  rw [← hH] at hP ⊢
  have hS : va_S A s.heap H [] := by rw [hH]; exact va_S.rf
  obtain ⟨locs, hlo⟩ : ∃ locs : List Loc, locs = [] := ⟨_, rfl⟩
  rw [← hlo] at hS ⊢
  refine lv_iload_n hx hb dX4_readItem_0 rfl (lv_at hl 1 rfl) ?_
  refine lv_bipush (v := 97) hx hb dX4_readItem_1 (by decide) ?_
  refine lv_icmp_lt (tgt := 27) hx hb dX4_readItem_3 (by decide) (fun c_1 => ?_) (fun c_1 => ?_)
  · refine lv_iload_n hx hb dX4_readItem_27 rfl (lv_at hl 1 rfl) ?_
    refine lv_bipush (v := 40) hx hb dX4_readItem_28 (by decide) ?_
    refine lv_icmp_ne (tgt := 71) hx hb dX4_readItem_30 (by decide) (fun c_2 => ?_) (fun c_2 => ?_)
    · refine lv_iload_n hx hb dX4_readItem_71 rfl (lv_at hl 1 rfl) ?_
      refine lv_bipush (v := 41) hx hb dX4_readItem_72 (by decide) ?_
      refine lv_icmp_ne (tgt := 99) hx hb dX4_readItem_74 (by decide) (fun c_3 => ?_) (fun c_3 => ?_)
      · refine lv_iconst (v := 0) hx hb dX4_readItem_99 (by decide) ?_
        have hr9 : (0 : Int32) = (r_X4_readItem x ch) := by unfold r_X4_readItem; simp only [if_pos c_1, if_neg c_2, if_neg c_3, if_true, if_false]
        have hw9 : (w_X4_readItem x ch) = x := by unfold w_X4_readItem; simp only [if_pos c_1, if_neg c_2, if_neg c_3, if_true, if_false]
        exact hret _ H locs _ ls hr9 (by rw [hw9]; exact hP) (by rw [hw9]; exact hD) hS dX4_readItem_100
      · refine lv_aload_n hx hb dX4_readItem_77 rfl (lv_at hl 0 rfl) ?_
        refine va_get (D := D) (ci := 3) (v := .int (x 5 0)) (C := RX4) (T := TX4) (N := 8) hx hb hts inX4_readItem_X4 hown hK hP 0 rfl rfl 5 (by decide) (hts _ (List.mem_of_getElem? (i := 3) rfl)) (fun _ h9 => h9) rfl dX4_readItem_78 ?_
        refine lv_if_le (tgt := 99) hx hb dX4_readItem_81 (by decide) (fun c_4 => ?_) (fun c_4 => ?_)
        · refine lv_iconst (v := 0) hx hb dX4_readItem_99 (by decide) ?_
          have hr9 : (0 : Int32) = (r_X4_readItem x ch) := by unfold r_X4_readItem; simp only [if_pos c_1, if_neg c_2, if_pos c_3, if_pos c_4, if_true, if_false]
          have hw9 : (w_X4_readItem x ch) = x := by unfold w_X4_readItem; simp only [if_pos c_1, if_neg c_2, if_pos c_3, if_pos c_4, if_true, if_false]
          exact hret _ H locs _ ls hr9 (by rw [hw9]; exact hP) (by rw [hw9]; exact hD) hS dX4_readItem_100
        · refine lv_aload_n hx hb dX4_readItem_84 rfl (lv_at hl 0 rfl) ?_
          refine va_get (D := D) (ci := 3) (v := .int (x 7 0)) (C := RX4) (T := TX4) (N := 8) hx hb hts inX4_readItem_X4 hown hK hP 0 rfl rfl 7 (by decide) (hts _ (List.mem_of_getElem? (i := 2) rfl)) (fun _ h9 => h9) rfl dX4_readItem_85 ?_
          refine lv_iconst (v := 1) hx hb dX4_readItem_88 (by decide) ?_
          refine lv_icmp_ne (tgt := 99) hx hb dX4_readItem_89 (by decide) (fun c_5 => ?_) (fun c_5 => ?_)
          · refine lv_iconst (v := 0) hx hb dX4_readItem_99 (by decide) ?_
            have hr9 : (0 : Int32) = (r_X4_readItem x ch) := by unfold r_X4_readItem; simp only [if_pos c_1, if_neg c_2, if_pos c_3, if_neg c_4, if_neg c_5, if_true, if_false]
            have hw9 : (w_X4_readItem x ch) = x := by unfold w_X4_readItem; simp only [if_pos c_1, if_neg c_2, if_pos c_3, if_neg c_4, if_neg c_5, if_true, if_false]
            exact hret _ H locs _ ls hr9 (by rw [hw9]; exact hP) (by rw [hw9]; exact hD) hS dX4_readItem_100
          · refine lv_aload_n hx hb dX4_readItem_92 rfl (lv_at hl 0 rfl) ?_
            refine lv_iconst (v := 3) hx hb dX4_readItem_93 (by decide) ?_
            refine va_put (D := D) (ci := 3) (v := .int (3 : Int32)) (ty := .int) (C := RX4) (T := TX4) (N := 8) hx hb hts inX4_readItem_X4 tyX4 tyX4_ok nmX4 hown hK hP hD hS 0 rfl rfl 7 (by decide) (hts _ (List.mem_of_getElem? (i := 2) rfl)) (fun _ h9 => h9) rfl (by decide +kernel) rfl rfl (Nat.le_of_ble_eq_true rfl) dX4_readItem_94 (fun H locs hP hD hS => ?_)
            have hP : va_P D vwCl (cT cy a (mkT (x 0) (x 1) (x 2) (x 3 0) (x 4 0) (x 5 0) (x 6 0) (3 : Int32))) H := hP
            have hD : va_D A (cT cy a (mkT (x 0) (x 1) (x 2) (x 3 0) (x 4 0) (x 5 0) (x 6 0) (3 : Int32))) := hD
            refine lv_iconst (v := 1) hx hb dX4_readItem_97 (by decide) ?_
            have hr9 : (1 : Int32) = (r_X4_readItem x ch) := by unfold r_X4_readItem; simp only [if_pos c_1, if_neg c_2, if_pos c_3, if_neg c_4, if_pos c_5, if_true, if_false]
            have hw9 : (w_X4_readItem x ch) = (mkT (x 0) (x 1) (x 2) (x 3 0) (x 4 0) (x 5 0) (x 6 0) (3 : Int32)) := by unfold w_X4_readItem; simp only [if_pos c_1, if_neg c_2, if_pos c_3, if_neg c_4, if_pos c_5, if_true, if_false]
            exact hret _ H locs _ ls hr9 (by rw [hw9]; exact hP) (by rw [hw9]; exact hD) hS dX4_readItem_98
    · refine lv_aload_n hx hb dX4_readItem_33 rfl (lv_at hl 0 rfl) ?_
      refine va_get (D := D) (ci := 3) (v := .int (x 5 0)) (C := RX4) (T := TX4) (N := 8) hx hb hts inX4_readItem_X4 hown hK hP 0 rfl rfl 5 (by decide) (hts _ (List.mem_of_getElem? (i := 3) rfl)) (fun _ h9 => h9) rfl dX4_readItem_34 ?_
      refine lv_iconst (v := 4) hx hb dX4_readItem_37 (by decide) ?_
      refine lv_icmp_ge (tgt := 71) hx hb dX4_readItem_38 (by decide) (fun c_6 => ?_) (fun c_6 => ?_)
      · refine lv_iload_n hx hb dX4_readItem_71 rfl (lv_at hl 1 rfl) ?_
        refine lv_bipush (v := 41) hx hb dX4_readItem_72 (by decide) ?_
        refine lv_icmp_ne (tgt := 99) hx hb dX4_readItem_74 (by decide) (fun c_7 => ?_) (fun c_7 => ?_)
        · refine lv_iconst (v := 0) hx hb dX4_readItem_99 (by decide) ?_
          have hr9 : (0 : Int32) = (r_X4_readItem x ch) := by unfold r_X4_readItem; simp only [if_pos c_1, if_pos c_2, if_pos c_6, if_neg c_7, if_true, if_false]
          have hw9 : (w_X4_readItem x ch) = x := by unfold w_X4_readItem; simp only [if_pos c_1, if_pos c_2, if_pos c_6, if_neg c_7, if_true, if_false]
          exact hret _ H locs _ ls hr9 (by rw [hw9]; exact hP) (by rw [hw9]; exact hD) hS dX4_readItem_100
        · refine lv_aload_n hx hb dX4_readItem_77 rfl (lv_at hl 0 rfl) ?_
          refine va_get (D := D) (ci := 3) (v := .int (x 5 0)) (C := RX4) (T := TX4) (N := 8) hx hb hts inX4_readItem_X4 hown hK hP 0 rfl rfl 5 (by decide) (hts _ (List.mem_of_getElem? (i := 3) rfl)) (fun _ h9 => h9) rfl dX4_readItem_78 ?_
          refine lv_if_le (tgt := 99) hx hb dX4_readItem_81 (by decide) (fun c_8 => ?_) (fun c_8 => ?_)
          · refine lv_iconst (v := 0) hx hb dX4_readItem_99 (by decide) ?_
            have hr9 : (0 : Int32) = (r_X4_readItem x ch) := by unfold r_X4_readItem; simp only [if_pos c_1, if_pos c_2, if_pos c_6, if_pos c_7, if_pos c_8, if_true, if_false]
            have hw9 : (w_X4_readItem x ch) = x := by unfold w_X4_readItem; simp only [if_pos c_1, if_pos c_2, if_pos c_6, if_pos c_7, if_pos c_8, if_true, if_false]
            exact hret _ H locs _ ls hr9 (by rw [hw9]; exact hP) (by rw [hw9]; exact hD) hS dX4_readItem_100
          · refine lv_aload_n hx hb dX4_readItem_84 rfl (lv_at hl 0 rfl) ?_
            refine va_get (D := D) (ci := 3) (v := .int (x 7 0)) (C := RX4) (T := TX4) (N := 8) hx hb hts inX4_readItem_X4 hown hK hP 0 rfl rfl 7 (by decide) (hts _ (List.mem_of_getElem? (i := 2) rfl)) (fun _ h9 => h9) rfl dX4_readItem_85 ?_
            refine lv_iconst (v := 1) hx hb dX4_readItem_88 (by decide) ?_
            refine lv_icmp_ne (tgt := 99) hx hb dX4_readItem_89 (by decide) (fun c_9 => ?_) (fun c_9 => ?_)
            · refine lv_iconst (v := 0) hx hb dX4_readItem_99 (by decide) ?_
              have hr9 : (0 : Int32) = (r_X4_readItem x ch) := by unfold r_X4_readItem; simp only [if_pos c_1, if_pos c_2, if_pos c_6, if_pos c_7, if_neg c_8, if_neg c_9, if_true, if_false]
              have hw9 : (w_X4_readItem x ch) = x := by unfold w_X4_readItem; simp only [if_pos c_1, if_pos c_2, if_pos c_6, if_pos c_7, if_neg c_8, if_neg c_9, if_true, if_false]
              exact hret _ H locs _ ls hr9 (by rw [hw9]; exact hP) (by rw [hw9]; exact hD) hS dX4_readItem_100
            · refine lv_aload_n hx hb dX4_readItem_92 rfl (lv_at hl 0 rfl) ?_
              refine lv_iconst (v := 3) hx hb dX4_readItem_93 (by decide) ?_
              refine va_put (D := D) (ci := 3) (v := .int (3 : Int32)) (ty := .int) (C := RX4) (T := TX4) (N := 8) hx hb hts inX4_readItem_X4 tyX4 tyX4_ok nmX4 hown hK hP hD hS 0 rfl rfl 7 (by decide) (hts _ (List.mem_of_getElem? (i := 2) rfl)) (fun _ h9 => h9) rfl (by decide +kernel) rfl rfl (Nat.le_of_ble_eq_true rfl) dX4_readItem_94 (fun H locs hP hD hS => ?_)
              have hP : va_P D vwCl (cT cy a (mkT (x 0) (x 1) (x 2) (x 3 0) (x 4 0) (x 5 0) (x 6 0) (3 : Int32))) H := hP
              have hD : va_D A (cT cy a (mkT (x 0) (x 1) (x 2) (x 3 0) (x 4 0) (x 5 0) (x 6 0) (3 : Int32))) := hD
              refine lv_iconst (v := 1) hx hb dX4_readItem_97 (by decide) ?_
              have hr9 : (1 : Int32) = (r_X4_readItem x ch) := by unfold r_X4_readItem; simp only [if_pos c_1, if_pos c_2, if_pos c_6, if_pos c_7, if_neg c_8, if_pos c_9, if_true, if_false]
              have hw9 : (w_X4_readItem x ch) = (mkT (x 0) (x 1) (x 2) (x 3 0) (x 4 0) (x 5 0) (x 6 0) (3 : Int32)) := by unfold w_X4_readItem; simp only [if_pos c_1, if_pos c_2, if_pos c_6, if_pos c_7, if_neg c_8, if_pos c_9, if_true, if_false]
              exact hret _ H locs _ ls hr9 (by rw [hw9]; exact hP) (by rw [hw9]; exact hD) hS dX4_readItem_98
      · refine lv_aload_n hx hb dX4_readItem_41 rfl (lv_at hl 0 rfl) ?_
        refine va_get (D := D) (ci := 3) (v := .ref (a 3)) (C := RX4) (T := TX4) (N := 8) hx hb hts inX4_readItem_X4 hown hK hP 0 rfl rfl 4 (by decide) (hts _ (List.mem_of_getElem? (i := 4) rfl)) (fun _ h9 => h9) rfl dX4_readItem_42 ?_
        refine lv_aload_n hx hb dX4_readItem_45 rfl (lv_at hl 0 rfl) ?_
        refine va_get (D := D) (ci := 3) (v := .int (x 5 0)) (C := RX4) (T := TX4) (N := 8) hx hb hts inX4_readItem_X4 hown hK hP 0 rfl rfl 5 (by decide) (hts _ (List.mem_of_getElem? (i := 3) rfl)) (fun _ h9 => h9) rfl dX4_readItem_46 ?_
        refine lv_aload_n hx hb dX4_readItem_49 rfl (lv_at hl 0 rfl) ?_
        refine va_get (D := D) (ci := 3) (v := .int (x 4 0)) (C := RX4) (T := TX4) (N := 8) hx hb hts inX4_readItem_X4 hown hK hP 0 rfl rfl 3 (by decide) (hts _ (List.mem_of_getElem? (i := 5) rfl)) (fun _ h9 => h9) rfl dX4_readItem_50 ?_
        refine x_iast (j := (x 5 0).toNatClampNeg) hx hb hK hP hD hS 3 0 rfl rfl rfl (in_nle ho c_6 rfl) dX4_readItem_53 (fun H locs hP hD hS => ?_)
        have hP : va_P D vwCl (cT cy a (mkT (x 0) (x 1) (upd (x 2) (x 5 0).toNatClampNeg (x 4 0)) (x 3 0) (x 4 0) (x 5 0) (x 6 0) (x 7 0))) H := hP
        have hD : va_D A (cT cy a (mkT (x 0) (x 1) (upd (x 2) (x 5 0).toNatClampNeg (x 4 0)) (x 3 0) (x 4 0) (x 5 0) (x 6 0) (x 7 0))) := hD
        refine lv_aload_n hx hb dX4_readItem_54 rfl (lv_at hl 0 rfl) ?_
        refine lv_dup hx hb dX4_readItem_55 rfl ?_
        refine va_get (D := D) (ci := 3) (v := .int (x 5 0)) (C := RX4) (T := TX4) (N := 8) hx hb hts inX4_readItem_X4 hown hK hP 0 rfl rfl 5 (by decide) (hts _ (List.mem_of_getElem? (i := 3) rfl)) (fun _ h9 => h9) rfl dX4_readItem_56 ?_
        refine lv_iconst (v := 1) hx hb dX4_readItem_59 (by decide) ?_
        refine lv_iadd hx hb dX4_readItem_60 ?_
        refine va_put (D := D) (ci := 3) (v := .int ((x 5 0) + (1 : Int32))) (ty := .int) (C := RX4) (T := TX4) (N := 8) hx hb hts inX4_readItem_X4 tyX4 tyX4_ok nmX4 hown hK hP hD hS 0 rfl rfl 5 (by decide) (hts _ (List.mem_of_getElem? (i := 3) rfl)) (fun _ h9 => h9) rfl (by decide +kernel) rfl rfl (Nat.le_of_ble_eq_true rfl) dX4_readItem_61 (fun H locs hP hD hS => ?_)
        have hP : va_P D vwCl (cT cy a (mkT (x 0) (x 1) (upd (x 2) (x 5 0).toNatClampNeg (x 4 0)) (x 3 0) (x 4 0) ((x 5 0) + (1 : Int32)) (x 6 0) (x 7 0))) H := hP
        have hD : va_D A (cT cy a (mkT (x 0) (x 1) (upd (x 2) (x 5 0).toNatClampNeg (x 4 0)) (x 3 0) (x 4 0) ((x 5 0) + (1 : Int32)) (x 6 0) (x 7 0))) := hD
        refine lv_aload_n hx hb dX4_readItem_64 rfl (lv_at hl 0 rfl) ?_
        refine lv_iconst (v := 0) hx hb dX4_readItem_65 (by decide) ?_
        refine va_put (D := D) (ci := 3) (v := .int (0 : Int32)) (ty := .int) (C := RX4) (T := TX4) (N := 8) hx hb hts inX4_readItem_X4 tyX4 tyX4_ok nmX4 hown hK hP hD hS 0 rfl rfl 7 (by decide) (hts _ (List.mem_of_getElem? (i := 2) rfl)) (fun _ h9 => h9) rfl (by decide +kernel) rfl rfl (Nat.le_of_ble_eq_true rfl) dX4_readItem_66 (fun H locs hP hD hS => ?_)
        have hP : va_P D vwCl (cT cy a (mkT (x 0) (x 1) (upd (x 2) (x 5 0).toNatClampNeg (x 4 0)) (x 3 0) (x 4 0) ((x 5 0) + (1 : Int32)) (x 6 0) (0 : Int32))) H := hP
        have hD : va_D A (cT cy a (mkT (x 0) (x 1) (upd (x 2) (x 5 0).toNatClampNeg (x 4 0)) (x 3 0) (x 4 0) ((x 5 0) + (1 : Int32)) (x 6 0) (0 : Int32))) := hD
        refine lv_iconst (v := 1) hx hb dX4_readItem_69 (by decide) ?_
        have hr9 : (1 : Int32) = (r_X4_readItem x ch) := by unfold r_X4_readItem; simp only [if_pos c_1, if_pos c_2, if_neg c_6, if_true, if_false]
        have hw9 : (w_X4_readItem x ch) = (mkT (x 0) (x 1) (upd (x 2) (x 5 0).toNatClampNeg (x 4 0)) (x 3 0) (x 4 0) ((x 5 0) + (1 : Int32)) (x 6 0) (0 : Int32)) := by unfold w_X4_readItem; simp only [if_pos c_1, if_pos c_2, if_neg c_6, if_true, if_false]
        exact hret _ H locs _ ls hr9 (by rw [hw9]; exact hP) (by rw [hw9]; exact hD) hS dX4_readItem_70
  · refine lv_iload_n hx hb dX4_readItem_6 rfl (lv_at hl 1 rfl) ?_
    refine lv_bipush (v := 122) hx hb dX4_readItem_7 (by decide) ?_
    refine lv_icmp_gt (tgt := 27) hx hb dX4_readItem_9 (by decide) (fun c_10 => ?_) (fun c_10 => ?_)
    · refine lv_iload_n hx hb dX4_readItem_27 rfl (lv_at hl 1 rfl) ?_
      refine lv_bipush (v := 40) hx hb dX4_readItem_28 (by decide) ?_
      refine lv_icmp_ne (tgt := 71) hx hb dX4_readItem_30 (by decide) (fun c_11 => ?_) (fun c_11 => ?_)
      · refine lv_iload_n hx hb dX4_readItem_71 rfl (lv_at hl 1 rfl) ?_
        refine lv_bipush (v := 41) hx hb dX4_readItem_72 (by decide) ?_
        refine lv_icmp_ne (tgt := 99) hx hb dX4_readItem_74 (by decide) (fun c_12 => ?_) (fun c_12 => ?_)
        · refine lv_iconst (v := 0) hx hb dX4_readItem_99 (by decide) ?_
          have hr9 : (0 : Int32) = (r_X4_readItem x ch) := by unfold r_X4_readItem; simp only [if_neg c_1, if_pos c_10, if_neg c_11, if_neg c_12, if_true, if_false]
          have hw9 : (w_X4_readItem x ch) = x := by unfold w_X4_readItem; simp only [if_neg c_1, if_pos c_10, if_neg c_11, if_neg c_12, if_true, if_false]
          exact hret _ H locs _ ls hr9 (by rw [hw9]; exact hP) (by rw [hw9]; exact hD) hS dX4_readItem_100
        · refine lv_aload_n hx hb dX4_readItem_77 rfl (lv_at hl 0 rfl) ?_
          refine va_get (D := D) (ci := 3) (v := .int (x 5 0)) (C := RX4) (T := TX4) (N := 8) hx hb hts inX4_readItem_X4 hown hK hP 0 rfl rfl 5 (by decide) (hts _ (List.mem_of_getElem? (i := 3) rfl)) (fun _ h9 => h9) rfl dX4_readItem_78 ?_
          refine lv_if_le (tgt := 99) hx hb dX4_readItem_81 (by decide) (fun c_13 => ?_) (fun c_13 => ?_)
          · refine lv_iconst (v := 0) hx hb dX4_readItem_99 (by decide) ?_
            have hr9 : (0 : Int32) = (r_X4_readItem x ch) := by unfold r_X4_readItem; simp only [if_neg c_1, if_pos c_10, if_neg c_11, if_pos c_12, if_pos c_13, if_true, if_false]
            have hw9 : (w_X4_readItem x ch) = x := by unfold w_X4_readItem; simp only [if_neg c_1, if_pos c_10, if_neg c_11, if_pos c_12, if_pos c_13, if_true, if_false]
            exact hret _ H locs _ ls hr9 (by rw [hw9]; exact hP) (by rw [hw9]; exact hD) hS dX4_readItem_100
          · refine lv_aload_n hx hb dX4_readItem_84 rfl (lv_at hl 0 rfl) ?_
            refine va_get (D := D) (ci := 3) (v := .int (x 7 0)) (C := RX4) (T := TX4) (N := 8) hx hb hts inX4_readItem_X4 hown hK hP 0 rfl rfl 7 (by decide) (hts _ (List.mem_of_getElem? (i := 2) rfl)) (fun _ h9 => h9) rfl dX4_readItem_85 ?_
            refine lv_iconst (v := 1) hx hb dX4_readItem_88 (by decide) ?_
            refine lv_icmp_ne (tgt := 99) hx hb dX4_readItem_89 (by decide) (fun c_14 => ?_) (fun c_14 => ?_)
            · refine lv_iconst (v := 0) hx hb dX4_readItem_99 (by decide) ?_
              have hr9 : (0 : Int32) = (r_X4_readItem x ch) := by unfold r_X4_readItem; simp only [if_neg c_1, if_pos c_10, if_neg c_11, if_pos c_12, if_neg c_13, if_neg c_14, if_true, if_false]
              have hw9 : (w_X4_readItem x ch) = x := by unfold w_X4_readItem; simp only [if_neg c_1, if_pos c_10, if_neg c_11, if_pos c_12, if_neg c_13, if_neg c_14, if_true, if_false]
              exact hret _ H locs _ ls hr9 (by rw [hw9]; exact hP) (by rw [hw9]; exact hD) hS dX4_readItem_100
            · refine lv_aload_n hx hb dX4_readItem_92 rfl (lv_at hl 0 rfl) ?_
              refine lv_iconst (v := 3) hx hb dX4_readItem_93 (by decide) ?_
              refine va_put (D := D) (ci := 3) (v := .int (3 : Int32)) (ty := .int) (C := RX4) (T := TX4) (N := 8) hx hb hts inX4_readItem_X4 tyX4 tyX4_ok nmX4 hown hK hP hD hS 0 rfl rfl 7 (by decide) (hts _ (List.mem_of_getElem? (i := 2) rfl)) (fun _ h9 => h9) rfl (by decide +kernel) rfl rfl (Nat.le_of_ble_eq_true rfl) dX4_readItem_94 (fun H locs hP hD hS => ?_)
              have hP : va_P D vwCl (cT cy a (mkT (x 0) (x 1) (x 2) (x 3 0) (x 4 0) (x 5 0) (x 6 0) (3 : Int32))) H := hP
              have hD : va_D A (cT cy a (mkT (x 0) (x 1) (x 2) (x 3 0) (x 4 0) (x 5 0) (x 6 0) (3 : Int32))) := hD
              refine lv_iconst (v := 1) hx hb dX4_readItem_97 (by decide) ?_
              have hr9 : (1 : Int32) = (r_X4_readItem x ch) := by unfold r_X4_readItem; simp only [if_neg c_1, if_pos c_10, if_neg c_11, if_pos c_12, if_neg c_13, if_pos c_14, if_true, if_false]
              have hw9 : (w_X4_readItem x ch) = (mkT (x 0) (x 1) (x 2) (x 3 0) (x 4 0) (x 5 0) (x 6 0) (3 : Int32)) := by unfold w_X4_readItem; simp only [if_neg c_1, if_pos c_10, if_neg c_11, if_pos c_12, if_neg c_13, if_pos c_14, if_true, if_false]
              exact hret _ H locs _ ls hr9 (by rw [hw9]; exact hP) (by rw [hw9]; exact hD) hS dX4_readItem_98
      · refine lv_aload_n hx hb dX4_readItem_33 rfl (lv_at hl 0 rfl) ?_
        refine va_get (D := D) (ci := 3) (v := .int (x 5 0)) (C := RX4) (T := TX4) (N := 8) hx hb hts inX4_readItem_X4 hown hK hP 0 rfl rfl 5 (by decide) (hts _ (List.mem_of_getElem? (i := 3) rfl)) (fun _ h9 => h9) rfl dX4_readItem_34 ?_
        refine lv_iconst (v := 4) hx hb dX4_readItem_37 (by decide) ?_
        refine lv_icmp_ge (tgt := 71) hx hb dX4_readItem_38 (by decide) (fun c_15 => ?_) (fun c_15 => ?_)
        · refine lv_iload_n hx hb dX4_readItem_71 rfl (lv_at hl 1 rfl) ?_
          refine lv_bipush (v := 41) hx hb dX4_readItem_72 (by decide) ?_
          refine lv_icmp_ne (tgt := 99) hx hb dX4_readItem_74 (by decide) (fun c_16 => ?_) (fun c_16 => ?_)
          · refine lv_iconst (v := 0) hx hb dX4_readItem_99 (by decide) ?_
            have hr9 : (0 : Int32) = (r_X4_readItem x ch) := by unfold r_X4_readItem; simp only [if_neg c_1, if_pos c_10, if_pos c_11, if_pos c_15, if_neg c_16, if_true, if_false]
            have hw9 : (w_X4_readItem x ch) = x := by unfold w_X4_readItem; simp only [if_neg c_1, if_pos c_10, if_pos c_11, if_pos c_15, if_neg c_16, if_true, if_false]
            exact hret _ H locs _ ls hr9 (by rw [hw9]; exact hP) (by rw [hw9]; exact hD) hS dX4_readItem_100
          · refine lv_aload_n hx hb dX4_readItem_77 rfl (lv_at hl 0 rfl) ?_
            refine va_get (D := D) (ci := 3) (v := .int (x 5 0)) (C := RX4) (T := TX4) (N := 8) hx hb hts inX4_readItem_X4 hown hK hP 0 rfl rfl 5 (by decide) (hts _ (List.mem_of_getElem? (i := 3) rfl)) (fun _ h9 => h9) rfl dX4_readItem_78 ?_
            refine lv_if_le (tgt := 99) hx hb dX4_readItem_81 (by decide) (fun c_17 => ?_) (fun c_17 => ?_)
            · refine lv_iconst (v := 0) hx hb dX4_readItem_99 (by decide) ?_
              have hr9 : (0 : Int32) = (r_X4_readItem x ch) := by unfold r_X4_readItem; simp only [if_neg c_1, if_pos c_10, if_pos c_11, if_pos c_15, if_pos c_16, if_pos c_17, if_true, if_false]
              have hw9 : (w_X4_readItem x ch) = x := by unfold w_X4_readItem; simp only [if_neg c_1, if_pos c_10, if_pos c_11, if_pos c_15, if_pos c_16, if_pos c_17, if_true, if_false]
              exact hret _ H locs _ ls hr9 (by rw [hw9]; exact hP) (by rw [hw9]; exact hD) hS dX4_readItem_100
            · refine lv_aload_n hx hb dX4_readItem_84 rfl (lv_at hl 0 rfl) ?_
              refine va_get (D := D) (ci := 3) (v := .int (x 7 0)) (C := RX4) (T := TX4) (N := 8) hx hb hts inX4_readItem_X4 hown hK hP 0 rfl rfl 7 (by decide) (hts _ (List.mem_of_getElem? (i := 2) rfl)) (fun _ h9 => h9) rfl dX4_readItem_85 ?_
              refine lv_iconst (v := 1) hx hb dX4_readItem_88 (by decide) ?_
              refine lv_icmp_ne (tgt := 99) hx hb dX4_readItem_89 (by decide) (fun c_18 => ?_) (fun c_18 => ?_)
              · refine lv_iconst (v := 0) hx hb dX4_readItem_99 (by decide) ?_
                have hr9 : (0 : Int32) = (r_X4_readItem x ch) := by unfold r_X4_readItem; simp only [if_neg c_1, if_pos c_10, if_pos c_11, if_pos c_15, if_pos c_16, if_neg c_17, if_neg c_18, if_true, if_false]
                have hw9 : (w_X4_readItem x ch) = x := by unfold w_X4_readItem; simp only [if_neg c_1, if_pos c_10, if_pos c_11, if_pos c_15, if_pos c_16, if_neg c_17, if_neg c_18, if_true, if_false]
                exact hret _ H locs _ ls hr9 (by rw [hw9]; exact hP) (by rw [hw9]; exact hD) hS dX4_readItem_100
              · refine lv_aload_n hx hb dX4_readItem_92 rfl (lv_at hl 0 rfl) ?_
                refine lv_iconst (v := 3) hx hb dX4_readItem_93 (by decide) ?_
                refine va_put (D := D) (ci := 3) (v := .int (3 : Int32)) (ty := .int) (C := RX4) (T := TX4) (N := 8) hx hb hts inX4_readItem_X4 tyX4 tyX4_ok nmX4 hown hK hP hD hS 0 rfl rfl 7 (by decide) (hts _ (List.mem_of_getElem? (i := 2) rfl)) (fun _ h9 => h9) rfl (by decide +kernel) rfl rfl (Nat.le_of_ble_eq_true rfl) dX4_readItem_94 (fun H locs hP hD hS => ?_)
                have hP : va_P D vwCl (cT cy a (mkT (x 0) (x 1) (x 2) (x 3 0) (x 4 0) (x 5 0) (x 6 0) (3 : Int32))) H := hP
                have hD : va_D A (cT cy a (mkT (x 0) (x 1) (x 2) (x 3 0) (x 4 0) (x 5 0) (x 6 0) (3 : Int32))) := hD
                refine lv_iconst (v := 1) hx hb dX4_readItem_97 (by decide) ?_
                have hr9 : (1 : Int32) = (r_X4_readItem x ch) := by unfold r_X4_readItem; simp only [if_neg c_1, if_pos c_10, if_pos c_11, if_pos c_15, if_pos c_16, if_neg c_17, if_pos c_18, if_true, if_false]
                have hw9 : (w_X4_readItem x ch) = (mkT (x 0) (x 1) (x 2) (x 3 0) (x 4 0) (x 5 0) (x 6 0) (3 : Int32)) := by unfold w_X4_readItem; simp only [if_neg c_1, if_pos c_10, if_pos c_11, if_pos c_15, if_pos c_16, if_neg c_17, if_pos c_18, if_true, if_false]
                exact hret _ H locs _ ls hr9 (by rw [hw9]; exact hP) (by rw [hw9]; exact hD) hS dX4_readItem_98
        · refine lv_aload_n hx hb dX4_readItem_41 rfl (lv_at hl 0 rfl) ?_
          refine va_get (D := D) (ci := 3) (v := .ref (a 3)) (C := RX4) (T := TX4) (N := 8) hx hb hts inX4_readItem_X4 hown hK hP 0 rfl rfl 4 (by decide) (hts _ (List.mem_of_getElem? (i := 4) rfl)) (fun _ h9 => h9) rfl dX4_readItem_42 ?_
          refine lv_aload_n hx hb dX4_readItem_45 rfl (lv_at hl 0 rfl) ?_
          refine va_get (D := D) (ci := 3) (v := .int (x 5 0)) (C := RX4) (T := TX4) (N := 8) hx hb hts inX4_readItem_X4 hown hK hP 0 rfl rfl 5 (by decide) (hts _ (List.mem_of_getElem? (i := 3) rfl)) (fun _ h9 => h9) rfl dX4_readItem_46 ?_
          refine lv_aload_n hx hb dX4_readItem_49 rfl (lv_at hl 0 rfl) ?_
          refine va_get (D := D) (ci := 3) (v := .int (x 4 0)) (C := RX4) (T := TX4) (N := 8) hx hb hts inX4_readItem_X4 hown hK hP 0 rfl rfl 3 (by decide) (hts _ (List.mem_of_getElem? (i := 5) rfl)) (fun _ h9 => h9) rfl dX4_readItem_50 ?_
          refine x_iast (j := (x 5 0).toNatClampNeg) hx hb hK hP hD hS 3 0 rfl rfl rfl (in_nle ho c_15 rfl) dX4_readItem_53 (fun H locs hP hD hS => ?_)
          have hP : va_P D vwCl (cT cy a (mkT (x 0) (x 1) (upd (x 2) (x 5 0).toNatClampNeg (x 4 0)) (x 3 0) (x 4 0) (x 5 0) (x 6 0) (x 7 0))) H := hP
          have hD : va_D A (cT cy a (mkT (x 0) (x 1) (upd (x 2) (x 5 0).toNatClampNeg (x 4 0)) (x 3 0) (x 4 0) (x 5 0) (x 6 0) (x 7 0))) := hD
          refine lv_aload_n hx hb dX4_readItem_54 rfl (lv_at hl 0 rfl) ?_
          refine lv_dup hx hb dX4_readItem_55 rfl ?_
          refine va_get (D := D) (ci := 3) (v := .int (x 5 0)) (C := RX4) (T := TX4) (N := 8) hx hb hts inX4_readItem_X4 hown hK hP 0 rfl rfl 5 (by decide) (hts _ (List.mem_of_getElem? (i := 3) rfl)) (fun _ h9 => h9) rfl dX4_readItem_56 ?_
          refine lv_iconst (v := 1) hx hb dX4_readItem_59 (by decide) ?_
          refine lv_iadd hx hb dX4_readItem_60 ?_
          refine va_put (D := D) (ci := 3) (v := .int ((x 5 0) + (1 : Int32))) (ty := .int) (C := RX4) (T := TX4) (N := 8) hx hb hts inX4_readItem_X4 tyX4 tyX4_ok nmX4 hown hK hP hD hS 0 rfl rfl 5 (by decide) (hts _ (List.mem_of_getElem? (i := 3) rfl)) (fun _ h9 => h9) rfl (by decide +kernel) rfl rfl (Nat.le_of_ble_eq_true rfl) dX4_readItem_61 (fun H locs hP hD hS => ?_)
          have hP : va_P D vwCl (cT cy a (mkT (x 0) (x 1) (upd (x 2) (x 5 0).toNatClampNeg (x 4 0)) (x 3 0) (x 4 0) ((x 5 0) + (1 : Int32)) (x 6 0) (x 7 0))) H := hP
          have hD : va_D A (cT cy a (mkT (x 0) (x 1) (upd (x 2) (x 5 0).toNatClampNeg (x 4 0)) (x 3 0) (x 4 0) ((x 5 0) + (1 : Int32)) (x 6 0) (x 7 0))) := hD
          refine lv_aload_n hx hb dX4_readItem_64 rfl (lv_at hl 0 rfl) ?_
          refine lv_iconst (v := 0) hx hb dX4_readItem_65 (by decide) ?_
          refine va_put (D := D) (ci := 3) (v := .int (0 : Int32)) (ty := .int) (C := RX4) (T := TX4) (N := 8) hx hb hts inX4_readItem_X4 tyX4 tyX4_ok nmX4 hown hK hP hD hS 0 rfl rfl 7 (by decide) (hts _ (List.mem_of_getElem? (i := 2) rfl)) (fun _ h9 => h9) rfl (by decide +kernel) rfl rfl (Nat.le_of_ble_eq_true rfl) dX4_readItem_66 (fun H locs hP hD hS => ?_)
          have hP : va_P D vwCl (cT cy a (mkT (x 0) (x 1) (upd (x 2) (x 5 0).toNatClampNeg (x 4 0)) (x 3 0) (x 4 0) ((x 5 0) + (1 : Int32)) (x 6 0) (0 : Int32))) H := hP
          have hD : va_D A (cT cy a (mkT (x 0) (x 1) (upd (x 2) (x 5 0).toNatClampNeg (x 4 0)) (x 3 0) (x 4 0) ((x 5 0) + (1 : Int32)) (x 6 0) (0 : Int32))) := hD
          refine lv_iconst (v := 1) hx hb dX4_readItem_69 (by decide) ?_
          have hr9 : (1 : Int32) = (r_X4_readItem x ch) := by unfold r_X4_readItem; simp only [if_neg c_1, if_pos c_10, if_pos c_11, if_neg c_15, if_true, if_false]
          have hw9 : (w_X4_readItem x ch) = (mkT (x 0) (x 1) (upd (x 2) (x 5 0).toNatClampNeg (x 4 0)) (x 3 0) (x 4 0) ((x 5 0) + (1 : Int32)) (x 6 0) (0 : Int32)) := by unfold w_X4_readItem; simp only [if_neg c_1, if_pos c_10, if_pos c_11, if_neg c_15, if_true, if_false]
          exact hret _ H locs _ ls hr9 (by rw [hw9]; exact hP) (by rw [hw9]; exact hD) hS dX4_readItem_70
    · refine lv_aload_n hx hb dX4_readItem_12 rfl (lv_at hl 0 rfl) ?_
      refine lv_iload_n hx hb dX4_readItem_13 rfl (lv_at hl 1 rfl) ?_
      refine lv_bipush (v := 97) hx hb dX4_readItem_14 (by decide) ?_
      refine lv_isub hx hb dX4_readItem_16 ?_
      refine va_put (D := D) (ci := 3) (v := .int (ch - (97 : Int32))) (ty := .int) (C := RX4) (T := TX4) (N := 8) hx hb hts inX4_readItem_X4 tyX4 tyX4_ok nmX4 hown hK hP hD hS 0 rfl rfl 6 (by decide) (hts _ (List.mem_of_getElem? (i := 1) rfl)) (fun _ h9 => h9) rfl (by decide +kernel) rfl rfl (Nat.le_of_ble_eq_true rfl) dX4_readItem_17 (fun H locs hP hD hS => ?_)
      have hP : va_P D vwCl (cT cy a (mkT (x 0) (x 1) (x 2) (x 3 0) (x 4 0) (x 5 0) (ch - (97 : Int32)) (x 7 0))) H := hP
      have hD : va_D A (cT cy a (mkT (x 0) (x 1) (x 2) (x 3 0) (x 4 0) (x 5 0) (ch - (97 : Int32)) (x 7 0))) := hD
      refine lv_aload_n hx hb dX4_readItem_20 rfl (lv_at hl 0 rfl) ?_
      refine lv_iconst (v := 2) hx hb dX4_readItem_21 (by decide) ?_
      refine va_put (D := D) (ci := 3) (v := .int (2 : Int32)) (ty := .int) (C := RX4) (T := TX4) (N := 8) hx hb hts inX4_readItem_X4 tyX4 tyX4_ok nmX4 hown hK hP hD hS 0 rfl rfl 7 (by decide) (hts _ (List.mem_of_getElem? (i := 2) rfl)) (fun _ h9 => h9) rfl (by decide +kernel) rfl rfl (Nat.le_of_ble_eq_true rfl) dX4_readItem_22 (fun H locs hP hD hS => ?_)
      have hP : va_P D vwCl (cT cy a (mkT (x 0) (x 1) (x 2) (x 3 0) (x 4 0) (x 5 0) (ch - (97 : Int32)) (2 : Int32))) H := hP
      have hD : va_D A (cT cy a (mkT (x 0) (x 1) (x 2) (x 3 0) (x 4 0) (x 5 0) (ch - (97 : Int32)) (2 : Int32))) := hD
      refine lv_iconst (v := 1) hx hb dX4_readItem_25 (by decide) ?_
      have hr9 : (1 : Int32) = (r_X4_readItem x ch) := by unfold r_X4_readItem; simp only [if_neg c_1, if_neg c_10, if_true, if_false]
      have hw9 : (w_X4_readItem x ch) = (mkT (x 0) (x 1) (x 2) (x 3 0) (x 4 0) (x 5 0) (ch - (97 : Int32)) (2 : Int32)) := by unfold w_X4_readItem; simp only [if_neg c_1, if_neg c_10, if_true, if_false]
      exact hret _ H locs _ ls hr9 (by rw [hw9]; exact hP) (by rw [hw9]; exact hD) hS dX4_readItem_26

def r_X4_readSign (x : RV) (ch : Int32) : Int32 := (if ch = (43 : Int32) then (1 : Int32) else (if ch = (45 : Int32) then (1 : Int32) else (0 : Int32)))
def w_X4_readSign (x : RV) (ch : Int32) : RV := (if ch = (43 : Int32) then (mkT (x 0) (if (300 : Int32) ≤ (x 4 0) then (x 1) else (upd (x 1) (x 4 0).toNatClampNeg (((2 : Int32) * (x 6 0)) + (if ch = (43 : Int32) then (1 : Int32) else (0 : Int32))))) (x 2) (x 3 0) ((x 4 0) + (1 : Int32)) (x 5 0) (x 6 0) (1 : Int32)) else (if ch = (45 : Int32) then (mkT (x 0) (if (300 : Int32) ≤ (x 4 0) then (x 1) else (upd (x 1) (x 4 0).toNatClampNeg (((2 : Int32) * (x 6 0)) + (if ch = (43 : Int32) then (1 : Int32) else (0 : Int32))))) (x 2) (x 3 0) ((x 4 0) + (1 : Int32)) (x 5 0) (x 6 0) (1 : Int32)) else x))
abbrev rX4_readSign : Room := { frames := 0, cells := 0, slots := 0, locals := 0 }
theorem inX4_readSign_X4 : ∀ w ∈ u_ws RX4 TX4 8, w ∈ wsX4_readSign := by decide +kernel
theorem zn_X4_readSign (x : RV) (ch : Int32) : narrow .boolean (.int (r_X4_readSign x ch)) = .int (r_X4_readSign x ch) := by
  unfold r_X4_readSign
  repeat' split
  all_goals rfl
set_option maxHeartbeats 4000000 in
set_option maxRecDepth 100000 in
theorem c_X4_readSign (l : Launch) (D : va_G) (cy : Nat → ClassId) (a : Nat → Nat) (x : RV) (ch : Int32) (sz : Nat) (hk : ¬ x 4 0 < 0) : CI l yX4_readSign wsX4_readSign rX4_readSign D cy [.ref (a 0), .int ch] (cT cy a x) sz (r_X4_readSign x ch) (cT cy a (w_X4_readSign x ch)) 0 0 := by
  refine st_i (ty := .boolean) (cc := cX4_readSign) (maxL := 2) (by decide) rfl (zn_X4_readSign x ch) (Nat.le_of_ble_eq_true rfl) ?_
  intro pp e s m below meth c A Q ls hx hb hts hown hml hlocks hsz hP hK hD hE hA hl hret
  subst hsz
  have hown : s.vm.findClass RX4 = some m.cls := hown
  have hl : lv_has ls 2 [(0, .ref (a 0)), (1, .int ch)] := hl
  obtain ⟨H, hH⟩ : ∃ H, H = s.heap := ⟨_, rfl⟩
  rw [← hH] at hP ⊢
  have hS : va_S A s.heap H [] := by rw [hH]; exact va_S.rf
  obtain ⟨locs, hlo⟩ : ∃ locs : List Loc, locs = [] := ⟨_, rfl⟩
  rw [← hlo] at hS ⊢
  refine lv_iload_n hx hb dX4_readSign_0 rfl (lv_at hl 1 rfl) ?_
  refine lv_bipush (v := 43) hx hb dX4_readSign_1 (by decide) ?_
  refine lv_icmp_eq (tgt := 14) hx hb dX4_readSign_3 (by decide) (fun c_1 => ?_) (fun c_1 => ?_)
  · refine lv_aload_n hx hb dX4_readSign_14 rfl (lv_at hl 0 rfl) ?_
    refine va_get (D := D) (ci := 3) (v := .int (x 4 0)) (C := RX4) (T := TX4) (N := 8) hx hb hts inX4_readSign_X4 hown hK hP 0 rfl rfl 3 (by decide) (hts _ (List.mem_of_getElem? (i := 1) rfl)) (fun _ h9 => h9) rfl dX4_readSign_15 ?_
    refine lv_sipush (v := 300) hx hb dX4_readSign_18 (by decide) ?_
    have J51_3 : ∀ (z_3 : Nat → Int32) (hz_3 : z_3 = (if (300 : Int32) ≤ (x 4 0) then (x 1) else (upd (x 1) (x 4 0).toNatClampNeg (((2 : Int32) * (x 6 0)) + (if ch = (43 : Int32) then (1 : Int32) else (0 : Int32)))))) (H : Heap) (locs : List Loc), va_P D vwCl (cT cy a (mkT (x 0) z_3 (x 2) (x 3 0) (x 4 0) (x 5 0) (x 6 0) (x 7 0))) H → va_D A (cT cy a (mkT (x 0) z_3 (x 2) (x 3 0) (x 4 0) (x 5 0) (x 6 0) (x 7 0))) → va_S A s.heap H locs → ∀ ls : Array Slot, lv_has ls 2 [(0, .ref (a 0)), (1, .int ch)] → W pp l e rX4_readSign s m ([.ref (a 0), .int ch] : List Value).toArray below meth c H locs 0 0 Q (F0 m 51 ls []) := by
      intro z_3 hz_3 H locs hP hD hS ls hl
      subst hz_3
      refine lv_aload_n hx hb dX4_readSign_51 rfl (lv_at hl 0 rfl) ?_
      refine lv_dup hx hb dX4_readSign_52 rfl ?_
      refine va_get (D := D) (ci := 3) (v := .int (x 4 0)) (C := RX4) (T := TX4) (N := 8) hx hb hts inX4_readSign_X4 hown hK hP 0 rfl rfl 3 (by decide) (hts _ (List.mem_of_getElem? (i := 1) rfl)) (fun _ h9 => h9) rfl dX4_readSign_53 ?_
      refine lv_iconst (v := 1) hx hb dX4_readSign_56 (by decide) ?_
      refine lv_iadd hx hb dX4_readSign_57 ?_
      refine va_put (D := D) (ci := 3) (v := .int ((x 4 0) + (1 : Int32))) (ty := .int) (C := RX4) (T := TX4) (N := 8) hx hb hts inX4_readSign_X4 tyX4 tyX4_ok nmX4 hown hK hP hD hS 0 rfl rfl 3 (by decide) (hts _ (List.mem_of_getElem? (i := 1) rfl)) (fun _ h9 => h9) rfl (by decide +kernel) rfl rfl (Nat.le_of_ble_eq_true rfl) dX4_readSign_58 (fun H locs hP hD hS => ?_)
      have hP : va_P D vwCl (cT cy a (mkT (x 0) (if (300 : Int32) ≤ (x 4 0) then (x 1) else (upd (x 1) (x 4 0).toNatClampNeg (((2 : Int32) * (x 6 0)) + (if ch = (43 : Int32) then (1 : Int32) else (0 : Int32))))) (x 2) (x 3 0) ((x 4 0) + (1 : Int32)) (x 5 0) (x 6 0) (x 7 0))) H := hP
      have hD : va_D A (cT cy a (mkT (x 0) (if (300 : Int32) ≤ (x 4 0) then (x 1) else (upd (x 1) (x 4 0).toNatClampNeg (((2 : Int32) * (x 6 0)) + (if ch = (43 : Int32) then (1 : Int32) else (0 : Int32))))) (x 2) (x 3 0) ((x 4 0) + (1 : Int32)) (x 5 0) (x 6 0) (x 7 0))) := hD
      refine lv_aload_n hx hb dX4_readSign_61 rfl (lv_at hl 0 rfl) ?_
      refine lv_iconst (v := 1) hx hb dX4_readSign_62 (by decide) ?_
      refine va_put (D := D) (ci := 3) (v := .int (1 : Int32)) (ty := .int) (C := RX4) (T := TX4) (N := 8) hx hb hts inX4_readSign_X4 tyX4 tyX4_ok nmX4 hown hK hP hD hS 0 rfl rfl 7 (by decide) (hts _ (List.mem_of_getElem? (i := 4) rfl)) (fun _ h9 => h9) rfl (by decide +kernel) rfl rfl (Nat.le_of_ble_eq_true rfl) dX4_readSign_63 (fun H locs hP hD hS => ?_)
      have hP : va_P D vwCl (cT cy a (mkT (x 0) (if (300 : Int32) ≤ (x 4 0) then (x 1) else (upd (x 1) (x 4 0).toNatClampNeg (((2 : Int32) * (x 6 0)) + (if ch = (43 : Int32) then (1 : Int32) else (0 : Int32))))) (x 2) (x 3 0) ((x 4 0) + (1 : Int32)) (x 5 0) (x 6 0) (1 : Int32))) H := hP
      have hD : va_D A (cT cy a (mkT (x 0) (if (300 : Int32) ≤ (x 4 0) then (x 1) else (upd (x 1) (x 4 0).toNatClampNeg (((2 : Int32) * (x 6 0)) + (if ch = (43 : Int32) then (1 : Int32) else (0 : Int32))))) (x 2) (x 3 0) ((x 4 0) + (1 : Int32)) (x 5 0) (x 6 0) (1 : Int32))) := hD
      refine lv_iconst (v := 1) hx hb dX4_readSign_66 (by decide) ?_
      have hr9 : (1 : Int32) = (r_X4_readSign x ch) := by unfold r_X4_readSign; simp only [if_pos c_1, if_true, if_false]
      have hw9 : (w_X4_readSign x ch) = (mkT (x 0) (if (300 : Int32) ≤ (x 4 0) then (x 1) else (upd (x 1) (x 4 0).toNatClampNeg (((2 : Int32) * (x 6 0)) + (if ch = (43 : Int32) then (1 : Int32) else (0 : Int32))))) (x 2) (x 3 0) ((x 4 0) + (1 : Int32)) (x 5 0) (x 6 0) (1 : Int32)) := by unfold w_X4_readSign; simp only [if_pos c_1, if_true, if_false]
      exact hret _ H locs _ ls hr9 (by rw [hw9]; exact hP) (by rw [hw9]; exact hD) hS dX4_readSign_67
    refine lv_icmp_ge (tgt := 51) hx hb dX4_readSign_21 (by decide) (fun c_2 => ?_) (fun c_2 => ?_)
    · exact J51_3 (x 1) (by simp only [if_pos c_2, if_true, if_false]) H locs hP hD hS ls (lv_sub hl [0, 1] rfl)
    · refine lv_aload_n hx hb dX4_readSign_24 rfl (lv_at hl 0 rfl) ?_
      refine va_get (D := D) (ci := 3) (v := .ref (a 2)) (C := RX4) (T := TX4) (N := 8) hx hb hts inX4_readSign_X4 hown hK hP 0 rfl rfl 2 (by decide) (hts _ (List.mem_of_getElem? (i := 2) rfl)) (fun _ h9 => h9) rfl dX4_readSign_25 ?_
      refine lv_aload_n hx hb dX4_readSign_28 rfl (lv_at hl 0 rfl) ?_
      refine va_get (D := D) (ci := 3) (v := .int (x 4 0)) (C := RX4) (T := TX4) (N := 8) hx hb hts inX4_readSign_X4 hown hK hP 0 rfl rfl 3 (by decide) (hts _ (List.mem_of_getElem? (i := 1) rfl)) (fun _ h9 => h9) rfl dX4_readSign_29 ?_
      refine lv_iconst (v := 2) hx hb dX4_readSign_32 (by decide) ?_
      refine lv_aload_n hx hb dX4_readSign_33 rfl (lv_at hl 0 rfl) ?_
      refine va_get (D := D) (ci := 3) (v := .int (x 6 0)) (C := RX4) (T := TX4) (N := 8) hx hb hts inX4_readSign_X4 hown hK hP 0 rfl rfl 6 (by decide) (hts _ (List.mem_of_getElem? (i := 3) rfl)) (fun _ h9 => h9) rfl dX4_readSign_34 ?_
      refine lv_imul hx hb dX4_readSign_37 ?_
      refine lv_iload_n hx hb dX4_readSign_38 rfl (lv_at hl 1 rfl) ?_
      refine lv_bipush (v := 43) hx hb dX4_readSign_39 (by decide) ?_
      have J49_6 : ∀ (z_6 : Int32) (hz_6 : z_6 = (if ch = (43 : Int32) then (1 : Int32) else (0 : Int32))) (H : Heap) (locs : List Loc), va_P D vwCl (cT cy a x) H → va_D A (cT cy a x) → va_S A s.heap H locs → ∀ ls : Array Slot, lv_has ls 2 [(0, .ref (a 0)), (1, .int ch)] → W pp l e rX4_readSign s m ([.ref (a 0), .int ch] : List Value).toArray below meth c H locs 0 0 Q (F0 m 49 ls [.int z_6, .int ((2 : Int32) * (x 6 0)), .int (x 4 0), .ref (a 2)]) := by
        intro z_6 hz_6 H locs hP hD hS ls hl
        subst hz_6
        refine lv_iadd hx hb dX4_readSign_49 ?_
        refine x_iast (j := (x 4 0).toNatClampNeg) hx hb hK hP hD hS 2 0 rfl rfl rfl (in_nle hk c_2 rfl) dX4_readSign_50 (fun H locs hP hD hS => ?_)
        have hP : va_P D vwCl (cT cy a (mkT (x 0) (upd (x 1) (x 4 0).toNatClampNeg (((2 : Int32) * (x 6 0)) + (if ch = (43 : Int32) then (1 : Int32) else (0 : Int32)))) (x 2) (x 3 0) (x 4 0) (x 5 0) (x 6 0) (x 7 0))) H := hP
        have hD : va_D A (cT cy a (mkT (x 0) (upd (x 1) (x 4 0).toNatClampNeg (((2 : Int32) * (x 6 0)) + (if ch = (43 : Int32) then (1 : Int32) else (0 : Int32)))) (x 2) (x 3 0) (x 4 0) (x 5 0) (x 6 0) (x 7 0))) := hD
        exact J51_3 (upd (x 1) (x 4 0).toNatClampNeg (((2 : Int32) * (x 6 0)) + (if ch = (43 : Int32) then (1 : Int32) else (0 : Int32)))) (by simp only [if_neg c_2, if_true, if_false]) H locs hP hD hS ls (lv_sub hl [0, 1] rfl)
      refine lv_icmp_ne (tgt := 48) hx hb dX4_readSign_41 (by decide) (fun c_5 => ?_) (fun c_5 => ?_)
      · refine lv_iconst (v := 0) hx hb dX4_readSign_48 (by decide) ?_
        exact J49_6 (0 : Int32) (by simp only [if_neg c_5, if_true, if_false]) H locs hP hD hS ls (lv_sub hl [0, 1] rfl)
      · refine lv_iconst (v := 1) hx hb dX4_readSign_44 (by decide) ?_
        refine lv_goto (tgt := 49) hx hb dX4_readSign_45 (by decide) ?_
        exact J49_6 (1 : Int32) (by simp only [if_pos c_5, if_true, if_false]) H locs hP hD hS ls (lv_sub hl [0, 1] rfl)
  · refine lv_iload_n hx hb dX4_readSign_6 rfl (lv_at hl 1 rfl) ?_
    refine lv_bipush (v := 45) hx hb dX4_readSign_7 (by decide) ?_
    refine lv_icmp_eq (tgt := 14) hx hb dX4_readSign_9 (by decide) (fun c_8 => ?_) (fun c_8 => ?_)
    · refine lv_aload_n hx hb dX4_readSign_14 rfl (lv_at hl 0 rfl) ?_
      refine va_get (D := D) (ci := 3) (v := .int (x 4 0)) (C := RX4) (T := TX4) (N := 8) hx hb hts inX4_readSign_X4 hown hK hP 0 rfl rfl 3 (by decide) (hts _ (List.mem_of_getElem? (i := 1) rfl)) (fun _ h9 => h9) rfl dX4_readSign_15 ?_
      refine lv_sipush (v := 300) hx hb dX4_readSign_18 (by decide) ?_
      have J51_10 : ∀ (z_10 : Nat → Int32) (hz_10 : z_10 = (if (300 : Int32) ≤ (x 4 0) then (x 1) else (upd (x 1) (x 4 0).toNatClampNeg (((2 : Int32) * (x 6 0)) + (if ch = (43 : Int32) then (1 : Int32) else (0 : Int32)))))) (H : Heap) (locs : List Loc), va_P D vwCl (cT cy a (mkT (x 0) z_10 (x 2) (x 3 0) (x 4 0) (x 5 0) (x 6 0) (x 7 0))) H → va_D A (cT cy a (mkT (x 0) z_10 (x 2) (x 3 0) (x 4 0) (x 5 0) (x 6 0) (x 7 0))) → va_S A s.heap H locs → ∀ ls : Array Slot, lv_has ls 2 [(0, .ref (a 0)), (1, .int ch)] → W pp l e rX4_readSign s m ([.ref (a 0), .int ch] : List Value).toArray below meth c H locs 0 0 Q (F0 m 51 ls []) := by
        intro z_10 hz_10 H locs hP hD hS ls hl
        subst hz_10
        refine lv_aload_n hx hb dX4_readSign_51 rfl (lv_at hl 0 rfl) ?_
        refine lv_dup hx hb dX4_readSign_52 rfl ?_
        refine va_get (D := D) (ci := 3) (v := .int (x 4 0)) (C := RX4) (T := TX4) (N := 8) hx hb hts inX4_readSign_X4 hown hK hP 0 rfl rfl 3 (by decide) (hts _ (List.mem_of_getElem? (i := 1) rfl)) (fun _ h9 => h9) rfl dX4_readSign_53 ?_
        refine lv_iconst (v := 1) hx hb dX4_readSign_56 (by decide) ?_
        refine lv_iadd hx hb dX4_readSign_57 ?_
        refine va_put (D := D) (ci := 3) (v := .int ((x 4 0) + (1 : Int32))) (ty := .int) (C := RX4) (T := TX4) (N := 8) hx hb hts inX4_readSign_X4 tyX4 tyX4_ok nmX4 hown hK hP hD hS 0 rfl rfl 3 (by decide) (hts _ (List.mem_of_getElem? (i := 1) rfl)) (fun _ h9 => h9) rfl (by decide +kernel) rfl rfl (Nat.le_of_ble_eq_true rfl) dX4_readSign_58 (fun H locs hP hD hS => ?_)
        have hP : va_P D vwCl (cT cy a (mkT (x 0) (if (300 : Int32) ≤ (x 4 0) then (x 1) else (upd (x 1) (x 4 0).toNatClampNeg (((2 : Int32) * (x 6 0)) + (if ch = (43 : Int32) then (1 : Int32) else (0 : Int32))))) (x 2) (x 3 0) ((x 4 0) + (1 : Int32)) (x 5 0) (x 6 0) (x 7 0))) H := hP
        have hD : va_D A (cT cy a (mkT (x 0) (if (300 : Int32) ≤ (x 4 0) then (x 1) else (upd (x 1) (x 4 0).toNatClampNeg (((2 : Int32) * (x 6 0)) + (if ch = (43 : Int32) then (1 : Int32) else (0 : Int32))))) (x 2) (x 3 0) ((x 4 0) + (1 : Int32)) (x 5 0) (x 6 0) (x 7 0))) := hD
        refine lv_aload_n hx hb dX4_readSign_61 rfl (lv_at hl 0 rfl) ?_
        refine lv_iconst (v := 1) hx hb dX4_readSign_62 (by decide) ?_
        refine va_put (D := D) (ci := 3) (v := .int (1 : Int32)) (ty := .int) (C := RX4) (T := TX4) (N := 8) hx hb hts inX4_readSign_X4 tyX4 tyX4_ok nmX4 hown hK hP hD hS 0 rfl rfl 7 (by decide) (hts _ (List.mem_of_getElem? (i := 4) rfl)) (fun _ h9 => h9) rfl (by decide +kernel) rfl rfl (Nat.le_of_ble_eq_true rfl) dX4_readSign_63 (fun H locs hP hD hS => ?_)
        have hP : va_P D vwCl (cT cy a (mkT (x 0) (if (300 : Int32) ≤ (x 4 0) then (x 1) else (upd (x 1) (x 4 0).toNatClampNeg (((2 : Int32) * (x 6 0)) + (if ch = (43 : Int32) then (1 : Int32) else (0 : Int32))))) (x 2) (x 3 0) ((x 4 0) + (1 : Int32)) (x 5 0) (x 6 0) (1 : Int32))) H := hP
        have hD : va_D A (cT cy a (mkT (x 0) (if (300 : Int32) ≤ (x 4 0) then (x 1) else (upd (x 1) (x 4 0).toNatClampNeg (((2 : Int32) * (x 6 0)) + (if ch = (43 : Int32) then (1 : Int32) else (0 : Int32))))) (x 2) (x 3 0) ((x 4 0) + (1 : Int32)) (x 5 0) (x 6 0) (1 : Int32))) := hD
        refine lv_iconst (v := 1) hx hb dX4_readSign_66 (by decide) ?_
        have hr9 : (1 : Int32) = (r_X4_readSign x ch) := by unfold r_X4_readSign; simp only [if_neg c_1, if_pos c_8, if_true, if_false]
        have hw9 : (w_X4_readSign x ch) = (mkT (x 0) (if (300 : Int32) ≤ (x 4 0) then (x 1) else (upd (x 1) (x 4 0).toNatClampNeg (((2 : Int32) * (x 6 0)) + (if ch = (43 : Int32) then (1 : Int32) else (0 : Int32))))) (x 2) (x 3 0) ((x 4 0) + (1 : Int32)) (x 5 0) (x 6 0) (1 : Int32)) := by unfold w_X4_readSign; simp only [if_neg c_1, if_pos c_8, if_true, if_false]
        exact hret _ H locs _ ls hr9 (by rw [hw9]; exact hP) (by rw [hw9]; exact hD) hS dX4_readSign_67
      refine lv_icmp_ge (tgt := 51) hx hb dX4_readSign_21 (by decide) (fun c_9 => ?_) (fun c_9 => ?_)
      · exact J51_10 (x 1) (by simp only [if_pos c_9, if_true, if_false]) H locs hP hD hS ls (lv_sub hl [0, 1] rfl)
      · refine lv_aload_n hx hb dX4_readSign_24 rfl (lv_at hl 0 rfl) ?_
        refine va_get (D := D) (ci := 3) (v := .ref (a 2)) (C := RX4) (T := TX4) (N := 8) hx hb hts inX4_readSign_X4 hown hK hP 0 rfl rfl 2 (by decide) (hts _ (List.mem_of_getElem? (i := 2) rfl)) (fun _ h9 => h9) rfl dX4_readSign_25 ?_
        refine lv_aload_n hx hb dX4_readSign_28 rfl (lv_at hl 0 rfl) ?_
        refine va_get (D := D) (ci := 3) (v := .int (x 4 0)) (C := RX4) (T := TX4) (N := 8) hx hb hts inX4_readSign_X4 hown hK hP 0 rfl rfl 3 (by decide) (hts _ (List.mem_of_getElem? (i := 1) rfl)) (fun _ h9 => h9) rfl dX4_readSign_29 ?_
        refine lv_iconst (v := 2) hx hb dX4_readSign_32 (by decide) ?_
        refine lv_aload_n hx hb dX4_readSign_33 rfl (lv_at hl 0 rfl) ?_
        refine va_get (D := D) (ci := 3) (v := .int (x 6 0)) (C := RX4) (T := TX4) (N := 8) hx hb hts inX4_readSign_X4 hown hK hP 0 rfl rfl 6 (by decide) (hts _ (List.mem_of_getElem? (i := 3) rfl)) (fun _ h9 => h9) rfl dX4_readSign_34 ?_
        refine lv_imul hx hb dX4_readSign_37 ?_
        refine lv_iload_n hx hb dX4_readSign_38 rfl (lv_at hl 1 rfl) ?_
        refine lv_bipush (v := 43) hx hb dX4_readSign_39 (by decide) ?_
        have J49_13 : ∀ (z_13 : Int32) (hz_13 : z_13 = (if ch = (43 : Int32) then (1 : Int32) else (0 : Int32))) (H : Heap) (locs : List Loc), va_P D vwCl (cT cy a x) H → va_D A (cT cy a x) → va_S A s.heap H locs → ∀ ls : Array Slot, lv_has ls 2 [(0, .ref (a 0)), (1, .int ch)] → W pp l e rX4_readSign s m ([.ref (a 0), .int ch] : List Value).toArray below meth c H locs 0 0 Q (F0 m 49 ls [.int z_13, .int ((2 : Int32) * (x 6 0)), .int (x 4 0), .ref (a 2)]) := by
          intro z_13 hz_13 H locs hP hD hS ls hl
          subst hz_13
          refine lv_iadd hx hb dX4_readSign_49 ?_
          refine x_iast (j := (x 4 0).toNatClampNeg) hx hb hK hP hD hS 2 0 rfl rfl rfl (in_nle hk c_9 rfl) dX4_readSign_50 (fun H locs hP hD hS => ?_)
          have hP : va_P D vwCl (cT cy a (mkT (x 0) (upd (x 1) (x 4 0).toNatClampNeg (((2 : Int32) * (x 6 0)) + (if ch = (43 : Int32) then (1 : Int32) else (0 : Int32)))) (x 2) (x 3 0) (x 4 0) (x 5 0) (x 6 0) (x 7 0))) H := hP
          have hD : va_D A (cT cy a (mkT (x 0) (upd (x 1) (x 4 0).toNatClampNeg (((2 : Int32) * (x 6 0)) + (if ch = (43 : Int32) then (1 : Int32) else (0 : Int32)))) (x 2) (x 3 0) (x 4 0) (x 5 0) (x 6 0) (x 7 0))) := hD
          exact J51_10 (upd (x 1) (x 4 0).toNatClampNeg (((2 : Int32) * (x 6 0)) + (if ch = (43 : Int32) then (1 : Int32) else (0 : Int32)))) (by simp only [if_neg c_9, if_true, if_false]) H locs hP hD hS ls (lv_sub hl [0, 1] rfl)
        refine lv_icmp_ne (tgt := 48) hx hb dX4_readSign_41 (by decide) (fun c_12 => ?_) (fun c_12 => ?_)
        · refine lv_iconst (v := 0) hx hb dX4_readSign_48 (by decide) ?_
          exact J49_13 (0 : Int32) (by simp only [if_neg c_12, if_true, if_false]) H locs hP hD hS ls (lv_sub hl [0, 1] rfl)
        · refine lv_iconst (v := 1) hx hb dX4_readSign_44 (by decide) ?_
          refine lv_goto (tgt := 49) hx hb dX4_readSign_45 (by decide) ?_
          exact J49_13 (1 : Int32) (by simp only [if_pos c_12, if_true, if_false]) H locs hP hD hS ls (lv_sub hl [0, 1] rfl)
    · refine lv_iconst (v := 0) hx hb dX4_readSign_12 (by decide) ?_
      have hr9 : (0 : Int32) = (r_X4_readSign x ch) := by unfold r_X4_readSign; simp only [if_neg c_1, if_neg c_8, if_true, if_false]
      have hw9 : (w_X4_readSign x ch) = x := by unfold w_X4_readSign; simp only [if_neg c_1, if_neg c_8, if_true, if_false]
      exact hret _ H locs _ ls hr9 (by rw [hw9]; exact hP) (by rw [hw9]; exact hD) hS dX4_readSign_13

/-- n steps more, each as the one that stands the span ahead of it -/
def stN (f : Nat → Int32) (sp : Int32) (k : Nat) : Nat → (Nat → Int32)
  | 0 => f
  | n + 1 => upd (stN f sp k n) (k + n) (stN f sp k n (nI (k + n) - sp).toNatClampNeg)
def w_X4_repeatFrom (x : RV) (start times : Int32) : RV := if (300 : Int32) < (start + ((x 4 0) - start) * times) then mkT (x 0) (x 1) (x 2) (x 3 0) (start + ((x 4 0) - start) * times) (x 5 0) (x 6 0) (x 7 0)
  else mkT (x 0) (stN (x 1) ((x 4 0) - start) (x 4 0).toNatClampNeg ((start + ((x 4 0) - start) * times).toNatClampNeg - (x 4 0).toNatClampNeg)) (x 2) (x 3 0) (start + ((x 4 0) - start) * times) (x 5 0) (x 6 0) (x 7 0)

abbrev rX4_repeatFrom : Room := { frames := 0, cells := 0, slots := 0, locals := 0 }
theorem inX4_repeatFrom_X4 : ∀ w ∈ u_ws RX4 TX4 8, w ∈ wsX4_repeatFrom := by decide +kernel
set_option maxHeartbeats 4000000 in
set_option maxRecDepth 100000 in
theorem c_X4_repeatFrom (l : Launch) (D : va_G) (cy : Nat → ClassId) (a : Nat → Nat) (x : RV) (start : Int32) (times : Int32) (sz : Nat) (hst : ∃ s0 k t : Nat, s0 ≤ k ∧ k ≤ 524880 ∧ t ≤ 9 ∧ x 4 0 = nI k ∧ start = nI s0 ∧ times = nI t) : CN l yX4_repeatFrom wsX4_repeatFrom rX4_repeatFrom D cy [.ref (a 0), .int start, .int times] (cT cy a x) sz (cT cy a (w_X4_repeatFrom x start times)) 0 0 := by
  refine st_n (cc := cX4_repeatFrom) (maxL := 6) (by decide) rfl (Nat.le_of_ble_eq_true rfl) ?_
  intro pp e s m below meth c A Q ls hx hb hts hown hml hlocks hsz hP hK hD hE hA hl hret
  subst hsz
  have hown : s.vm.findClass RX4 = some m.cls := hown
  have hl : lv_has ls 6 [(0, .ref (a 0)), (1, .int start), (2, .int times)] := hl
  obtain ⟨H, hH⟩ : ∃ H, H = s.heap := ⟨_, rfl⟩
  rw [← hH] at hP ⊢
  have hS : va_S A s.heap H [] := by rw [hH]; exact va_S.rf
  obtain ⟨locs, hlo⟩ : ∃ locs : List Loc, locs = [] := ⟨_, rfl⟩
  rw [← hlo] at hS ⊢
  obtain ⟨s0, k, t, hs1, hs2, hs3, hk, hs0, ht⟩ := hst
  have hsp : (x 4 0) - start = nI (k - s0) := by rw [hk, hs0]; exact pk_sub hs1
  have hmul : (k - s0) * t ≤ 524880 * 9 := Nat.mul_le_mul (by omega) hs3
  have hend : start + ((x 4 0) - start) * times = nI (s0 + (k - s0) * t) := by rw [hsp, hs0, ht, pk_mul, nI_add]
  have hkc : (x 4 0).toNatClampNeg = k := by rw [hk]; exact nI_clamp (by omega)
  refine lv_aload_n hx hb dX4_repeatFrom_0 rfl (lv_at hl 0 rfl) ?_
  refine va_get (D := D) (ci := 3) (v := .int (x 4 0)) (C := RX4) (T := TX4) (N := 8) hx hb hts inX4_repeatFrom_X4 hown hK hP 0 rfl rfl 3 (by decide) (hts _ (List.mem_of_getElem? (i := 1) rfl)) (fun _ h9 => h9) rfl dX4_repeatFrom_1 ?_
  refine lv_iload_n hx hb dX4_repeatFrom_4 rfl (lv_at hl 1 rfl) ?_
  refine lv_isub hx hb dX4_repeatFrom_5 ?_
  refine lv_istore_n (lv' := [(3, .int ((x 4 0) - start)), (0, .ref (a 0)), (1, .int start), (2, .int times)]) hx hb dX4_repeatFrom_6 rfl hl (by decide) rfl (fun ls hl => ?_)
  refine lv_iload_n hx hb dX4_repeatFrom_7 rfl (lv_at hl 2 rfl) ?_
  refine lv_iload_n hx hb dX4_repeatFrom_8 rfl (lv_at hl 0 rfl) ?_
  refine lv_iload_n hx hb dX4_repeatFrom_9 rfl (lv_at hl 3 rfl) ?_
  refine lv_imul hx hb dX4_repeatFrom_10 ?_
  refine lv_iadd hx hb dX4_repeatFrom_11 ?_
  refine lv_istore (lv' := [(4, .int (start + (((x 4 0) - start) * times))), (3, .int ((x 4 0) - start)), (0, .ref (a 0)), (1, .int start), (2, .int times)]) hx hb dX4_repeatFrom_12 hl (by decide) rfl (fun ls hl => ?_)
  refine lv_iload hx hb dX4_repeatFrom_14 (lv_at hl 0 rfl) ?_
  refine lv_sipush (v := 300) hx hb dX4_repeatFrom_16 (by decide) ?_
  refine lv_icmp_gt (tgt := 57) hx hb dX4_repeatFrom_19 (by decide) (fun c_3 => ?_) (fun c_3 => ?_)
  · refine lv_aload_n hx hb dX4_repeatFrom_57 rfl (lv_at hl 2 rfl) ?_
    refine lv_iload hx hb dX4_repeatFrom_58 (lv_at hl 0 rfl) ?_
    refine va_put (D := D) (ci := 3) (v := .int (start + (((x 4 0) - start) * times))) (ty := .int) (C := RX4) (T := TX4) (N := 8) hx hb hts inX4_repeatFrom_X4 tyX4 tyX4_ok nmX4 hown hK hP hD hS 0 rfl rfl 3 (by decide) (hts _ (List.mem_of_getElem? (i := 1) rfl)) (fun _ h9 => h9) rfl (by decide +kernel) rfl rfl (Nat.le_of_ble_eq_true rfl) dX4_repeatFrom_60 (fun H locs hP hD hS => ?_)
    have hP : va_P D vwCl (cT cy a (mkT (x 0) (x 1) (x 2) (x 3 0) (start + (((x 4 0) - start) * times)) (x 5 0) (x 6 0) (x 7 0))) H := hP
    have hD : va_D A (cT cy a (mkT (x 0) (x 1) (x 2) (x 3 0) (start + (((x 4 0) - start) * times)) (x 5 0) (x 6 0) (x 7 0))) := hD
    have hw9 : (w_X4_repeatFrom x start times) = (mkT (x 0) (x 1) (x 2) (x 3 0) (start + (((x 4 0) - start) * times)) (x 5 0) (x 6 0) (x 7 0)) := by unfold w_X4_repeatFrom; exact if_pos c_3
    exact hret H locs _ ls (by rw [hw9]; exact hP) (by rw [hw9]; exact hD) hS dX4_repeatFrom_63
  · refine lv_aload_n hx hb dX4_repeatFrom_22 rfl (lv_at hl 2 rfl) ?_
    refine va_get (D := D) (ci := 3) (v := .int (x 4 0)) (C := RX4) (T := TX4) (N := 8) hx hb hts inX4_repeatFrom_X4 hown hK hP 0 rfl rfl 3 (by decide) (hts _ (List.mem_of_getElem? (i := 1) rfl)) (fun _ h9 => h9) rfl dX4_repeatFrom_23 ?_
    refine lv_istore (lv' := [(5, .int (x 4 0)), (4, .int (start + (((x 4 0) - start) * times))), (3, .int ((x 4 0) - start)), (0, .ref (a 0)), (1, .int start), (2, .int times)]) hx hb dX4_repeatFrom_26 hl (by decide) rfl (fun ls hl => ?_)
    have hc300 : ¬ (300 : Int32) < (start + (x 4 0 - start) * times) := c_3
    have hlt : ∀ j, j < max k (s0 + (k - s0) * t) → k ≤ j → j < 300 := by
      intro j h1 h2
      have h3 : ¬ (300 : Int32) < nI (s0 + (k - s0) * t) := by rw [← hend]; exact hc300
      have h4 : s0 + (k - s0) * t ≤ 300 := Nat.le_of_not_lt fun h => h3 (nI_lt h (by omega))
      omega
    have hloop : ∀ (n i j : Nat), j = k + i → j + n = max k (s0 + (k - s0) * t) → ∀ (H : Heap) (locs : List Loc), va_P D vwCl (cT cy a (mkT (x 0) (stN (x 1) (((x 4) 0) - start) k i) (x 2) (x 3 0) (x 4 0) (x 5 0) (x 6 0) (x 7 0))) H → va_D A (cT cy a (mkT (x 0) (stN (x 1) (((x 4) 0) - start) k i) (x 2) (x 3 0) (x 4 0) (x 5 0) (x 6 0) (x 7 0))) → va_S A s.heap H locs → ∀ ls : Array Slot, lv_has ls 6 [(0, .ref (a 0)), (1, .int start), (2, .int times), (3, .int (((x 4) 0) - start)), (4, .int (start + (((x 4) 0) - start) * times)), (5, .int (nI j))] → W pp l e rX4_repeatFrom s m ([.ref (a 0), .int start, .int times] : List Value).toArray below meth c H locs 0 0 Q (F0 m 28 ls []) := by
      intro n
      induction n with
      | zero =>
        intro i j hij hjn H locs hP hD hS ls hl
        refine lv_iload hx hb dX4_repeatFrom_28 (lv_at hl 5 rfl) ?_
        refine lv_iload hx hb dX4_repeatFrom_30 (lv_at hl 4 rfl) ?_
        refine lv_icmp_ge (tgt := 57) hx hb dX4_repeatFrom_32 (by decide) (fun c_1 => ?_) (fun c_1 => absurd (show (start + (((x 4) 0) - start) * times) ≤ nI j from by rw [hend]; exact nI_le (by omega) (by omega)) c_1)
        refine lv_aload_n hx hb dX4_repeatFrom_57 rfl (lv_at hl 0 rfl) ?_
        refine lv_iload hx hb dX4_repeatFrom_58 (lv_at hl 4 rfl) ?_
        refine va_put (D := D) (ci := 3) (v := .int (start + (((x 4) 0) - start) * times)) (ty := .int) (C := RX4) (T := TX4) (N := 8) hx hb hts inX4_repeatFrom_X4 tyX4 tyX4_ok nmX4 hown hK hP hD hS 0 rfl rfl 3 (by decide) (hts _ (List.mem_of_getElem? (i := 1) rfl)) (fun _ h9 => h9) rfl (by decide +kernel) rfl rfl (Nat.le_of_ble_eq_true rfl) dX4_repeatFrom_60 (fun H locs hP hD hS => ?_)
        have hP : va_P D vwCl (cT cy a (mkT (x 0) (stN (x 1) (((x 4) 0) - start) k i) (x 2) (x 3 0) (start + (((x 4) 0) - start) * times) (x 5 0) (x 6 0) (x 7 0))) H := hP
        have hD : va_D A (cT cy a (mkT (x 0) (stN (x 1) (((x 4) 0) - start) k i) (x 2) (x 3 0) (start + (((x 4) 0) - start) * times) (x 5 0) (x 6 0) (x 7 0))) := hD
        have hw9 : (w_X4_repeatFrom x start times) = (mkT (x 0) (stN (x 1) (((x 4) 0) - start) k i) (x 2) (x 3 0) (start + (((x 4) 0) - start) * times) (x 5 0) (x 6 0) (x 7 0)) := by
          unfold w_X4_repeatFrom
          rw [if_neg hc300, hkc]
          have e1 : (start + (((x 4) 0) - start) * times).toNatClampNeg - k = i := by rw [hend, nI_clamp (by omega)]; omega
          have e2 : (start + (x 4 0 - start) * times).toNatClampNeg - k = i := e1
          rw [e2]
        exact hret H locs _ ls (by rw [hw9]; exact hP) (by rw [hw9]; exact hD) hS dX4_repeatFrom_63
      | succ n ih =>
        intro i j hij hjn H locs hP hD hS ls hl
        have hj3 : j < 300 := hlt j (by omega) (by omega)
        refine lv_iload hx hb dX4_repeatFrom_28 (lv_at hl 5 rfl) ?_
        refine lv_iload hx hb dX4_repeatFrom_30 (lv_at hl 4 rfl) ?_
        refine lv_icmp_ge (tgt := 57) hx hb dX4_repeatFrom_32 (by decide) (fun c_2 => absurd c_2 (show ¬ (start + (((x 4) 0) - start) * times) ≤ nI j from by rw [hend]; exact nI_ge (by omega) (by omega))) (fun c_2 => ?_)
        refine lv_aload_n hx hb dX4_repeatFrom_35 rfl (lv_at hl 0 rfl) ?_
        refine va_get (D := D) (ci := 3) (v := .ref (a 2)) (C := RX4) (T := TX4) (N := 8) hx hb hts inX4_repeatFrom_X4 hown hK hP 0 rfl rfl 2 (by decide) (hts _ (List.mem_of_getElem? (i := 2) rfl)) (fun _ h9 => h9) rfl dX4_repeatFrom_36 ?_
        refine lv_iload hx hb dX4_repeatFrom_39 (lv_at hl 5 rfl) ?_
        refine lv_aload_n hx hb dX4_repeatFrom_41 rfl (lv_at hl 0 rfl) ?_
        refine va_get (D := D) (ci := 3) (v := .ref (a 2)) (C := RX4) (T := TX4) (N := 8) hx hb hts inX4_repeatFrom_X4 hown hK hP 0 rfl rfl 2 (by decide) (hts _ (List.mem_of_getElem? (i := 2) rfl)) (fun _ h9 => h9) rfl dX4_repeatFrom_42 ?_
        refine lv_iload hx hb dX4_repeatFrom_45 (lv_at hl 5 rfl) ?_
        refine lv_iload_n hx hb dX4_repeatFrom_47 rfl (lv_at hl 3 rfl) ?_
        refine lv_isub hx hb dX4_repeatFrom_48 ?_
        refine x_iald (f := (stN (x 1) (((x 4) 0) - start) k i)) (j := ((nI j) - (((x 4) 0) - start)).toNatClampNeg) hx hb hK hP 2 0 rfl rfl rfl (by rw [hsp, pk_sub (by omega)]; exact vp_in_nI (by omega) (by decide)) dX4_repeatFrom_49 ?_
        refine x_iast (j := j) hx hb hK hP hD hS 2 0 rfl rfl (nI_clamp (by omega)) (vp_in_nI (by omega) (by decide)) dX4_repeatFrom_50 (fun H locs hP hD hS => ?_)
        have hP : va_P D vwCl (cT cy a (mkT (x 0) (upd (stN (x 1) (((x 4) 0) - start) k i) j ((stN (x 1) (((x 4) 0) - start) k i) ((nI j) - (((x 4) 0) - start)).toNatClampNeg)) (x 2) (x 3 0) (x 4 0) (x 5 0) (x 6 0) (x 7 0))) H := hP
        have hD : va_D A (cT cy a (mkT (x 0) (upd (stN (x 1) (((x 4) 0) - start) k i) j ((stN (x 1) (((x 4) 0) - start) k i) ((nI j) - (((x 4) 0) - start)).toNatClampNeg)) (x 2) (x 3 0) (x 4 0) (x 5 0) (x 6 0) (x 7 0))) := hD
        refine lv_iinc (v := (nI (j + 1))) (lv' := [(5, .int (nI (j + 1))), (0, .ref (a 0)), (1, .int start), (2, .int times), (3, .int (((x 4) 0) - start)), (4, .int (start + (((x 4) 0) - start) * times))]) hx hb dX4_repeatFrom_51 hl (k := 5) rfl (nI_1 j) (by decide) rfl (fun ls hl => ?_)
        refine lv_goto (tgt := 28) hx hb dX4_repeatFrom_54 (by decide) ?_
        have e9 : (upd (stN (x 1) (((x 4) 0) - start) k i) j ((stN (x 1) (((x 4) 0) - start) k i) ((nI j) - (((x 4) 0) - start)).toNatClampNeg)) = stN (x 1) (((x 4) 0) - start) k (i + 1) := by subst hij; rfl
        rw [e9] at hP hD
        exact ih (i + 1) (j + 1) (by omega) (by omega) H locs hP hD hS ls (lv_sub hl [1, 2, 3, 4, 5, 0] rfl)
    have hl : lv_has ls 6 [(5, .int (nI k)), (4, .int (start + (((x 4 0) - start) * times))), (3, .int ((x 4 0) - start)), (0, .ref (a 0)), (1, .int start), (2, .int times)] := by rw [← hk]; exact hl
    exact hloop (max k (s0 + (k - s0) * t) - k) 0 k (by omega) (by omega) H locs hP hD hS ls (lv_sub hl [3, 4, 5, 2, 1, 0] rfl)

theorem TI.dig {n : Nat} {x : RV} (h : TI n x) (hn : n ≤ 80) (h1 : (1 : Int32) ≤ x 5 0) : ∃ o k s0 : Nat, o < 4 ∧ x 5 0 - 1 = nI o ∧ x 2 o = nI s0 ∧ x 4 0 = nI k ∧ s0 ≤ k ∧ k ≤ 524880 := by
  obtain ⟨o, k, s, a1, a2, a3, a4, a5, a6⟩ := h.small hn
  rw [a2] at h1
  have ho : 1 ≤ o := (nI_leI (a := 1) (b := o) (by decide) (by omega)).mp h1
  obtain ⟨o', rfl⟩ : ∃ o', o = o' + 1 := ⟨o - 1, by omega⟩
  exact ⟨o', k, s o', by omega, by rw [a2, nI_pred], a4 o' (by omega), a3, a5.1, a6⟩
theorem dg_t {ch : Int32} (h1 : ¬ ch < 50) (h2 : ¬ (57 : Int32) < ch) : ∃ t : Nat, 2 ≤ t ∧ t ≤ 9 ∧ ch - 48 = nI t := by
  have e1 : ¬ ch.toInt < 50 := fun h => h1 ((fa_lt' ch 50).mpr h)
  have e2 : ¬ 57 < ch.toInt := fun h => h2 ((fa_lt' 57 ch).mpr h)
  have e3 : ch = nI ch.toInt.toNat := by
    apply Int32.toInt_inj.mp
    rw [nI_toInt (by omega)]
    omega
  refine ⟨ch.toInt.toNat - 48, by omega, by omega, ?_⟩
  conv => lhs; rw [e3]
  exact pk_sub (a := ch.toInt.toNat) (b := 48) (by omega)
theorem TI.rep {x : RV} {ch : Int32} (hti : ∃ n, n ≤ 80 ∧ TI n x) (h1 : (1 : Int32) ≤ x 5 0) (h2 : ¬ ch < 50) (h3 : ¬ (57 : Int32) < ch) : vp_in (x 5 0 - 1) 4 ∧ ∃ s0 k t : Nat, s0 ≤ k ∧ k ≤ 524880 ∧ t ≤ 9 ∧ x 4 0 = nI k ∧ x 2 (x 5 0 - 1).toNatClampNeg = nI s0 ∧ ch - 48 = nI t := by
  obtain ⟨n, hn, h⟩ := hti
  obtain ⟨o, k, s0, a1, a2, a3, a4, a5, a6⟩ := h.dig hn h1
  obtain ⟨t, b1, b2, b3⟩ := dg_t h2 h3
  rw [a2]
  refine ⟨vp_in_nI a1 (by decide), s0, k, t, a5, a6, b2, a4, ?_, b3⟩
  rw [nI_clamp (by omega)]
  exact a3

def r_X4_readDigit (x : RV) (ch : Int32) : Int32 := (if ch < (50 : Int32) then (0 : Int32) else (if (57 : Int32) < ch then (0 : Int32) else (if (1 : Int32) ≤ (x 5 0) then (1 : Int32) else (0 : Int32))))
def w_X4_readDigit (x : RV) (ch : Int32) : RV := (if ch < (50 : Int32) then x else (if (57 : Int32) < ch then x else (if (1 : Int32) ≤ (x 5 0) then (mkT ((w_X4_repeatFrom (mkT (x 0) (x 1) (x 2) (x 3 0) (x 4 0) ((x 5 0) - (1 : Int32)) (x 6 0) (x 7 0)) ((x 2) ((x 5 0) - (1 : Int32)).toNatClampNeg) (ch - (48 : Int32))) 0) ((w_X4_repeatFrom (mkT (x 0) (x 1) (x 2) (x 3 0) (x 4 0) ((x 5 0) - (1 : Int32)) (x 6 0) (x 7 0)) ((x 2) ((x 5 0) - (1 : Int32)).toNatClampNeg) (ch - (48 : Int32))) 1) ((w_X4_repeatFrom (mkT (x 0) (x 1) (x 2) (x 3 0) (x 4 0) ((x 5 0) - (1 : Int32)) (x 6 0) (x 7 0)) ((x 2) ((x 5 0) - (1 : Int32)).toNatClampNeg) (ch - (48 : Int32))) 2) ((w_X4_repeatFrom (mkT (x 0) (x 1) (x 2) (x 3 0) (x 4 0) ((x 5 0) - (1 : Int32)) (x 6 0) (x 7 0)) ((x 2) ((x 5 0) - (1 : Int32)).toNatClampNeg) (ch - (48 : Int32))) 3 0) ((w_X4_repeatFrom (mkT (x 0) (x 1) (x 2) (x 3 0) (x 4 0) ((x 5 0) - (1 : Int32)) (x 6 0) (x 7 0)) ((x 2) ((x 5 0) - (1 : Int32)).toNatClampNeg) (ch - (48 : Int32))) 4 0) ((w_X4_repeatFrom (mkT (x 0) (x 1) (x 2) (x 3 0) (x 4 0) ((x 5 0) - (1 : Int32)) (x 6 0) (x 7 0)) ((x 2) ((x 5 0) - (1 : Int32)).toNatClampNeg) (ch - (48 : Int32))) 5 0) ((w_X4_repeatFrom (mkT (x 0) (x 1) (x 2) (x 3 0) (x 4 0) ((x 5 0) - (1 : Int32)) (x 6 0) (x 7 0)) ((x 2) ((x 5 0) - (1 : Int32)).toNatClampNeg) (ch - (48 : Int32))) 6 0) (1 : Int32)) else x)))
abbrev rX4_readDigit : Room := { frames := 1, cells := 0, slots := 0, locals := 25 }
theorem inX4_readDigit_X4 : ∀ w ∈ u_ws RX4 TX4 8, w ∈ wsX4_readDigit := by decide +kernel
theorem zn_X4_readDigit (x : RV) (ch : Int32) : narrow .boolean (.int (r_X4_readDigit x ch)) = .int (r_X4_readDigit x ch) := by
  unfold r_X4_readDigit
  repeat' split
  all_goals rfl
set_option maxHeartbeats 4000000 in
set_option maxRecDepth 100000 in
theorem c_X4_readDigit (l : Launch) (D : va_G) (cy : Nat → ClassId) (a : Nat → Nat) (x : RV) (ch : Int32) (sz : Nat) (hti : ∃ n, n ≤ 80 ∧ TI n x) : CI l yX4_readDigit wsX4_readDigit rX4_readDigit D cy [.ref (a 0), .int ch] (cT cy a x) sz (r_X4_readDigit x ch) (cT cy a (w_X4_readDigit x ch)) 0 0 := by
  refine st_i (ty := .boolean) (cc := cX4_readDigit) (maxL := 2) (by decide) rfl (zn_X4_readDigit x ch) (Nat.le_of_ble_eq_true rfl) ?_
  intro pp e s m below meth c A Q ls hx hb hts hown hml hlocks hsz hP hK hD hE hA hl hret
  subst hsz
  have hown : s.vm.findClass RX4 = some m.cls := hown
  have hl : lv_has ls 2 [(0, .ref (a 0)), (1, .int ch)] := hl
  obtain ⟨H, hH⟩ : ∃ H, H = s.heap := ⟨_, rfl⟩
  rw [← hH] at hP ⊢
  have hS : va_S A s.heap H [] := by rw [hH]; exact va_S.rf
  obtain ⟨locs, hlo⟩ : ∃ locs : List Loc, locs = [] := ⟨_, rfl⟩
  rw [← hlo] at hS ⊢
  refine lv_iload_n hx hb dX4_readDigit_0 rfl (lv_at hl 1 rfl) ?_
  refine lv_bipush (v := 50) hx hb dX4_readDigit_1 (by decide) ?_
  refine lv_icmp_lt (tgt := 20) hx hb dX4_readDigit_3 (by decide) (fun c_1 => ?_) (fun c_1 => ?_)
  · refine lv_iconst (v := 0) hx hb dX4_readDigit_20 (by decide) ?_
    have hr9 : (0 : Int32) = (r_X4_readDigit x ch) := by unfold r_X4_readDigit; simp only [if_pos c_1, if_true, if_false]
    have hw9 : (w_X4_readDigit x ch) = x := by unfold w_X4_readDigit; simp only [if_pos c_1, if_true, if_false]
    exact hret _ H locs _ ls hr9 (by rw [hw9]; exact hP) (by rw [hw9]; exact hD) hS dX4_readDigit_21
  · refine lv_iload_n hx hb dX4_readDigit_6 rfl (lv_at hl 1 rfl) ?_
    refine lv_bipush (v := 57) hx hb dX4_readDigit_7 (by decide) ?_
    refine lv_icmp_gt (tgt := 20) hx hb dX4_readDigit_9 (by decide) (fun c_2 => ?_) (fun c_2 => ?_)
    · refine lv_iconst (v := 0) hx hb dX4_readDigit_20 (by decide) ?_
      have hr9 : (0 : Int32) = (r_X4_readDigit x ch) := by unfold r_X4_readDigit; simp only [if_neg c_1, if_pos c_2, if_true, if_false]
      have hw9 : (w_X4_readDigit x ch) = x := by unfold w_X4_readDigit; simp only [if_neg c_1, if_pos c_2, if_true, if_false]
      exact hret _ H locs _ ls hr9 (by rw [hw9]; exact hP) (by rw [hw9]; exact hD) hS dX4_readDigit_21
    · refine lv_aload_n hx hb dX4_readDigit_12 rfl (lv_at hl 0 rfl) ?_
      refine va_get (D := D) (ci := 3) (v := .int (x 5 0)) (C := RX4) (T := TX4) (N := 8) hx hb hts inX4_readDigit_X4 hown hK hP 0 rfl rfl 5 (by decide) (hts _ (List.mem_of_getElem? (i := 1) rfl)) (fun _ h9 => h9) rfl dX4_readDigit_13 ?_
      refine lv_iconst (v := 1) hx hb dX4_readDigit_16 (by decide) ?_
      refine lv_icmp_ge (tgt := 22) hx hb dX4_readDigit_17 (by decide) (fun c_3 => ?_) (fun c_3 => ?_)
      · refine lv_aload_n hx hb dX4_readDigit_22 rfl (lv_at hl 0 rfl) ?_
        refine lv_dup hx hb dX4_readDigit_23 rfl ?_
        refine va_get (D := D) (ci := 3) (v := .int (x 5 0)) (C := RX4) (T := TX4) (N := 8) hx hb hts inX4_readDigit_X4 hown hK hP 0 rfl rfl 5 (by decide) (hts _ (List.mem_of_getElem? (i := 1) rfl)) (fun _ h9 => h9) rfl dX4_readDigit_24 ?_
        refine lv_iconst (v := 1) hx hb dX4_readDigit_27 (by decide) ?_
        refine lv_isub hx hb dX4_readDigit_28 ?_
        refine va_put (D := D) (ci := 3) (v := .int ((x 5 0) - (1 : Int32))) (ty := .int) (C := RX4) (T := TX4) (N := 8) hx hb hts inX4_readDigit_X4 tyX4 tyX4_ok nmX4 hown hK hP hD hS 0 rfl rfl 5 (by decide) (hts _ (List.mem_of_getElem? (i := 1) rfl)) (fun _ h9 => h9) rfl (by decide +kernel) rfl rfl (Nat.le_of_ble_eq_true rfl) dX4_readDigit_29 (fun H locs hP hD hS => ?_)
        have hP : va_P D vwCl (cT cy a (mkT (x 0) (x 1) (x 2) (x 3 0) (x 4 0) ((x 5 0) - (1 : Int32)) (x 6 0) (x 7 0))) H := hP
        have hD : va_D A (cT cy a (mkT (x 0) (x 1) (x 2) (x 3 0) (x 4 0) ((x 5 0) - (1 : Int32)) (x 6 0) (x 7 0))) := hD
        refine lv_aload_n hx hb dX4_readDigit_32 rfl (lv_at hl 0 rfl) ?_
        refine lv_aload_n hx hb dX4_readDigit_33 rfl (lv_at hl 0 rfl) ?_
        refine va_get (D := D) (ci := 3) (v := .ref (a 3)) (C := RX4) (T := TX4) (N := 8) hx hb hts inX4_readDigit_X4 hown hK hP 0 rfl rfl 4 (by decide) (hts _ (List.mem_of_getElem? (i := 2) rfl)) (fun _ h9 => h9) rfl dX4_readDigit_34 ?_
        refine lv_aload_n hx hb dX4_readDigit_37 rfl (lv_at hl 0 rfl) ?_
        refine va_get (D := D) (ci := 3) (v := .int ((x 5 0) - (1 : Int32))) (C := RX4) (T := TX4) (N := 8) hx hb hts inX4_readDigit_X4 hown hK hP 0 rfl rfl 5 (by decide) (hts _ (List.mem_of_getElem? (i := 1) rfl)) (fun _ h9 => h9) rfl dX4_readDigit_38 ?_
        refine x_iald (f := (x 2)) (j := ((x 5 0) - (1 : Int32)).toNatClampNeg) hx hb hK hP 3 0 rfl rfl rfl (TI.rep hti c_3 c_1 c_2).1 dX4_readDigit_41 ?_
        refine lv_iload_n hx hb dX4_readDigit_42 rfl (lv_at hl 1 rfl) ?_
        refine lv_bipush (v := 48) hx hb dX4_readDigit_43 (by decide) ?_
        refine lv_isub hx hb dX4_readDigit_45 ?_
        refine cl_n (va_runV (As := [.int ((x 2) ((x 5 0) - (1 : Int32)).toNatClampNeg), .int (ch - (48 : Int32))]) (rest := []) ⟨hx, hb, hml, hown, hts⟩ (c_X4_repeatFrom l D cy a (mkT (x 0) (x 1) (x 2) (x 3 0) (x 4 0) ((x 5 0) - (1 : Int32)) (x 6 0) (x 7 0)) ((x 2) ((x 5 0) - (1 : Int32)).toNatClampNeg) (ch - (48 : Int32)) H.size ((TI.rep hti c_3 c_1 c_2).2)) (cwV 2 hts gX4_readDigit_X4_repeatFrom rfl rfl rfl (by decide +kernel) ⟨Nat.le_of_ble_eq_true rfl, Nat.le_of_ble_eq_true rfl⟩) ⟨blU, va_recv hK hP (ci := 3) (q0 := 0) rfl rfl, preU hP hD (pmI _) hK hE hS hA⟩ rfl rfl hl.1 rfl (lv_room (Nat.le_of_ble_eq_true rfl)) dX4_readDigit_46 ⟨Nat.le_of_ble_eq_true rfl, Nat.le_of_ble_eq_true rfl⟩) hP hD (pmI _) hS hA (fun H locs hP hD hS => ?_)
        have hP : va_P D vwCl (cT cy a (w_X4_repeatFrom (mkT (x 0) (x 1) (x 2) (x 3 0) (x 4 0) ((x 5 0) - (1 : Int32)) (x 6 0) (x 7 0)) ((x 2) ((x 5 0) - (1 : Int32)).toNatClampNeg) (ch - (48 : Int32)))) H := vP_perm hP (pmI _).symm
        have hD : va_D A (cT cy a (w_X4_repeatFrom (mkT (x 0) (x 1) (x 2) (x 3 0) (x 4 0) ((x 5 0) - (1 : Int32)) (x 6 0) (x 7 0)) ((x 2) ((x 5 0) - (1 : Int32)).toNatClampNeg) (ch - (48 : Int32)))) := vD_perm hD (pmI _).symm
        refine lv_aload_n hx hb dX4_readDigit_49 rfl (lv_at hl 0 rfl) ?_
        refine lv_iconst (v := 1) hx hb dX4_readDigit_50 (by decide) ?_
        refine va_put (D := D) (ci := 3) (v := .int (1 : Int32)) (ty := .int) (C := RX4) (T := TX4) (N := 8) hx hb hts inX4_readDigit_X4 tyX4 tyX4_ok nmX4 hown hK hP hD hS 0 rfl rfl 7 (by decide) (hts _ (List.mem_of_getElem? (i := 3) rfl)) (fun _ h9 => h9) rfl (by decide +kernel) rfl rfl (Nat.le_of_ble_eq_true rfl) dX4_readDigit_51 (fun H locs hP hD hS => ?_)
        have hP : va_P D vwCl (cT cy a (mkT ((w_X4_repeatFrom (mkT (x 0) (x 1) (x 2) (x 3 0) (x 4 0) ((x 5 0) - (1 : Int32)) (x 6 0) (x 7 0)) ((x 2) ((x 5 0) - (1 : Int32)).toNatClampNeg) (ch - (48 : Int32))) 0) ((w_X4_repeatFrom (mkT (x 0) (x 1) (x 2) (x 3 0) (x 4 0) ((x 5 0) - (1 : Int32)) (x 6 0) (x 7 0)) ((x 2) ((x 5 0) - (1 : Int32)).toNatClampNeg) (ch - (48 : Int32))) 1) ((w_X4_repeatFrom (mkT (x 0) (x 1) (x 2) (x 3 0) (x 4 0) ((x 5 0) - (1 : Int32)) (x 6 0) (x 7 0)) ((x 2) ((x 5 0) - (1 : Int32)).toNatClampNeg) (ch - (48 : Int32))) 2) ((w_X4_repeatFrom (mkT (x 0) (x 1) (x 2) (x 3 0) (x 4 0) ((x 5 0) - (1 : Int32)) (x 6 0) (x 7 0)) ((x 2) ((x 5 0) - (1 : Int32)).toNatClampNeg) (ch - (48 : Int32))) 3 0) ((w_X4_repeatFrom (mkT (x 0) (x 1) (x 2) (x 3 0) (x 4 0) ((x 5 0) - (1 : Int32)) (x 6 0) (x 7 0)) ((x 2) ((x 5 0) - (1 : Int32)).toNatClampNeg) (ch - (48 : Int32))) 4 0) ((w_X4_repeatFrom (mkT (x 0) (x 1) (x 2) (x 3 0) (x 4 0) ((x 5 0) - (1 : Int32)) (x 6 0) (x 7 0)) ((x 2) ((x 5 0) - (1 : Int32)).toNatClampNeg) (ch - (48 : Int32))) 5 0) ((w_X4_repeatFrom (mkT (x 0) (x 1) (x 2) (x 3 0) (x 4 0) ((x 5 0) - (1 : Int32)) (x 6 0) (x 7 0)) ((x 2) ((x 5 0) - (1 : Int32)).toNatClampNeg) (ch - (48 : Int32))) 6 0) (1 : Int32))) H := hP
        have hD : va_D A (cT cy a (mkT ((w_X4_repeatFrom (mkT (x 0) (x 1) (x 2) (x 3 0) (x 4 0) ((x 5 0) - (1 : Int32)) (x 6 0) (x 7 0)) ((x 2) ((x 5 0) - (1 : Int32)).toNatClampNeg) (ch - (48 : Int32))) 0) ((w_X4_repeatFrom (mkT (x 0) (x 1) (x 2) (x 3 0) (x 4 0) ((x 5 0) - (1 : Int32)) (x 6 0) (x 7 0)) ((x 2) ((x 5 0) - (1 : Int32)).toNatClampNeg) (ch - (48 : Int32))) 1) ((w_X4_repeatFrom (mkT (x 0) (x 1) (x 2) (x 3 0) (x 4 0) ((x 5 0) - (1 : Int32)) (x 6 0) (x 7 0)) ((x 2) ((x 5 0) - (1 : Int32)).toNatClampNeg) (ch - (48 : Int32))) 2) ((w_X4_repeatFrom (mkT (x 0) (x 1) (x 2) (x 3 0) (x 4 0) ((x 5 0) - (1 : Int32)) (x 6 0) (x 7 0)) ((x 2) ((x 5 0) - (1 : Int32)).toNatClampNeg) (ch - (48 : Int32))) 3 0) ((w_X4_repeatFrom (mkT (x 0) (x 1) (x 2) (x 3 0) (x 4 0) ((x 5 0) - (1 : Int32)) (x 6 0) (x 7 0)) ((x 2) ((x 5 0) - (1 : Int32)).toNatClampNeg) (ch - (48 : Int32))) 4 0) ((w_X4_repeatFrom (mkT (x 0) (x 1) (x 2) (x 3 0) (x 4 0) ((x 5 0) - (1 : Int32)) (x 6 0) (x 7 0)) ((x 2) ((x 5 0) - (1 : Int32)).toNatClampNeg) (ch - (48 : Int32))) 5 0) ((w_X4_repeatFrom (mkT (x 0) (x 1) (x 2) (x 3 0) (x 4 0) ((x 5 0) - (1 : Int32)) (x 6 0) (x 7 0)) ((x 2) ((x 5 0) - (1 : Int32)).toNatClampNeg) (ch - (48 : Int32))) 6 0) (1 : Int32))) := hD
        refine lv_iconst (v := 1) hx hb dX4_readDigit_54 (by decide) ?_
        have hr9 : (1 : Int32) = (r_X4_readDigit x ch) := by unfold r_X4_readDigit; simp only [if_neg c_1, if_neg c_2, if_pos c_3, if_true, if_false]
        have hw9 : (w_X4_readDigit x ch) = (mkT ((w_X4_repeatFrom (mkT (x 0) (x 1) (x 2) (x 3 0) (x 4 0) ((x 5 0) - (1 : Int32)) (x 6 0) (x 7 0)) ((x 2) ((x 5 0) - (1 : Int32)).toNatClampNeg) (ch - (48 : Int32))) 0) ((w_X4_repeatFrom (mkT (x 0) (x 1) (x 2) (x 3 0) (x 4 0) ((x 5 0) - (1 : Int32)) (x 6 0) (x 7 0)) ((x 2) ((x 5 0) - (1 : Int32)).toNatClampNeg) (ch - (48 : Int32))) 1) ((w_X4_repeatFrom (mkT (x 0) (x 1) (x 2) (x 3 0) (x 4 0) ((x 5 0) - (1 : Int32)) (x 6 0) (x 7 0)) ((x 2) ((x 5 0) - (1 : Int32)).toNatClampNeg) (ch - (48 : Int32))) 2) ((w_X4_repeatFrom (mkT (x 0) (x 1) (x 2) (x 3 0) (x 4 0) ((x 5 0) - (1 : Int32)) (x 6 0) (x 7 0)) ((x 2) ((x 5 0) - (1 : Int32)).toNatClampNeg) (ch - (48 : Int32))) 3 0) ((w_X4_repeatFrom (mkT (x 0) (x 1) (x 2) (x 3 0) (x 4 0) ((x 5 0) - (1 : Int32)) (x 6 0) (x 7 0)) ((x 2) ((x 5 0) - (1 : Int32)).toNatClampNeg) (ch - (48 : Int32))) 4 0) ((w_X4_repeatFrom (mkT (x 0) (x 1) (x 2) (x 3 0) (x 4 0) ((x 5 0) - (1 : Int32)) (x 6 0) (x 7 0)) ((x 2) ((x 5 0) - (1 : Int32)).toNatClampNeg) (ch - (48 : Int32))) 5 0) ((w_X4_repeatFrom (mkT (x 0) (x 1) (x 2) (x 3 0) (x 4 0) ((x 5 0) - (1 : Int32)) (x 6 0) (x 7 0)) ((x 2) ((x 5 0) - (1 : Int32)).toNatClampNeg) (ch - (48 : Int32))) 6 0) (1 : Int32)) := by unfold w_X4_readDigit; simp only [if_neg c_1, if_neg c_2, if_pos c_3, if_true, if_false]
        exact hret _ H locs _ ls hr9 (by rw [hw9]; exact hP) (by rw [hw9]; exact hD) hS dX4_readDigit_55
      · refine lv_iconst (v := 0) hx hb dX4_readDigit_20 (by decide) ?_
        have hr9 : (0 : Int32) = (r_X4_readDigit x ch) := by unfold r_X4_readDigit; simp only [if_neg c_1, if_neg c_2, if_neg c_3, if_true, if_false]
        have hw9 : (w_X4_readDigit x ch) = x := by unfold w_X4_readDigit; simp only [if_neg c_1, if_neg c_2, if_neg c_3, if_true, if_false]
        exact hret _ H locs _ ls hr9 (by rw [hw9]; exact hP) (by rw [hw9]; exact hD) hS dX4_readDigit_21

def r_X4_readCharacter (x : RV) (ch : Int32) : Int32 := (if (x 7 0) = 2 then (r_X4_readSign x ch) else (if (x 7 0) = 3 then (r_X4_readDigit x ch) else (r_X4_readItem x ch)))
def w_X4_readCharacter (x : RV) (ch : Int32) : RV := (if (x 7 0) = 2 then (w_X4_readSign x ch) else (if (x 7 0) = 3 then (w_X4_readDigit x ch) else (w_X4_readItem x ch)))
theorem zn_rc (x : RV) (ch : Int32) : narrow .boolean (.int (r_X4_readCharacter x ch)) = .int (r_X4_readCharacter x ch) := by
  unfold r_X4_readCharacter
  split
  · exact zn_X4_readSign x ch
  · split
    · exact zn_X4_readDigit x ch
    · exact zn_X4_readItem x ch
abbrev rX4_readCharacter : Room := { frames := 2, cells := 0, slots := 0, locals := 46 }
theorem inX4_readCharacter_X4 : ∀ w ∈ u_ws RX4 TX4 8, w ∈ wsX4_readCharacter := by decide +kernel
set_option maxHeartbeats 4000000 in
set_option maxRecDepth 100000 in
theorem c_X4_readCharacter (l : Launch) (D : va_G) (cy : Nat → ClassId) (a : Nat → Nat) (x : RV) (ch : Int32) (sz : Nat) (hti : ∃ n, n ≤ 80 ∧ TI n x) : CI l yX4_readCharacter wsX4_readCharacter rX4_readCharacter D cy [.ref (a 0), .int ch] (cT cy a x) sz (r_X4_readCharacter x ch) (cT cy a (w_X4_readCharacter x ch)) 0 0 := by
  refine st_i (ty := .boolean) (cc := cX4_readCharacter) (maxL := 2) (by decide) rfl (zn_rc x ch) (Nat.le_of_ble_eq_true rfl) ?_
  intro pp e s m below meth c A Q ls hx hb hts hown hml hlocks hsz hP hK hD hE hA hl hret
  subst hsz
  have hown : s.vm.findClass RX4 = some m.cls := hown
  have hl : lv_has ls 2 [(0, .ref (a 0)), (1, .int ch)] := hl
  obtain ⟨H, hH⟩ : ∃ H, H = s.heap := ⟨_, rfl⟩
  rw [← hH] at hP ⊢
  have hS : va_S A s.heap H [] := by rw [hH]; exact va_S.rf
  obtain ⟨locs, hlo⟩ : ∃ locs : List Loc, locs = [] := ⟨_, rfl⟩
  rw [← hlo] at hS ⊢
  refine lv_aload_n hx hb dX4_readCharacter_0 rfl (lv_at hl 0 rfl) ?_
  refine va_get (D := D) (ci := 3) (v := .int (x 7 0)) (C := RX4) (T := TX4) (N := 8) hx hb hts inX4_readCharacter_X4 hown hK hP 0 rfl rfl 7 (by decide) (hts _ (List.mem_of_getElem? (i := 1) rfl)) (fun _ h9 => h9) rfl dX4_readCharacter_1 ?_
  by_cases c_1 : (x 7 0) = 2
  · refine lv_lookup (tgt := 32) (off := 28) hx hb dX4_readCharacter_4 (by decide) (by rw [c_1]; rfl) (by decide) ?_
    refine lv_aload_n hx hb dX4_readCharacter_32 rfl (lv_at hl 0 rfl) ?_
    refine lv_iload_n hx hb dX4_readCharacter_33 rfl (lv_at hl 1 rfl) ?_
    refine cl_i (va_runV (As := [.int ch]) (rest := []) ⟨hx, hb, hml, hown, hts⟩ (c_X4_readSign l D cy a x ch H.size (hti.choose_spec.2.cnt hti.choose_spec.1)) (cwV 1 hts gX4_readCharacter_X4_readSign rfl rfl rfl (by decide +kernel) ⟨Nat.le_of_ble_eq_true rfl, Nat.le_of_ble_eq_true rfl⟩) ⟨blU, va_recv hK hP (ci := 3) (q0 := 0) rfl rfl, preU hP hD (pmI _) hK hE hS hA⟩ rfl rfl hl.1 rfl (lv_room (Nat.le_of_ble_eq_true rfl)) dX4_readCharacter_34 ⟨Nat.le_of_ble_eq_true rfl, Nat.le_of_ble_eq_true rfl⟩) hP hD (pmI _) hS hA (fun H locs hP hD hS => ?_)
    have hP : va_P D vwCl (cT cy a (w_X4_readSign x ch)) H := vP_perm hP (pmI _).symm
    have hD : va_D A (cT cy a (w_X4_readSign x ch)) := vD_perm hD (pmI _).symm
    have hr9 : (r_X4_readSign x ch) = (r_X4_readCharacter x ch) := by unfold r_X4_readCharacter; simp only [if_pos c_1, if_true, if_false]
    have hw9 : (w_X4_readCharacter x ch) = (w_X4_readSign x ch) := by unfold w_X4_readCharacter; simp only [if_pos c_1, if_true, if_false]
    exact hret _ H locs _ ls hr9 (by rw [hw9]; exact hP) (by rw [hw9]; exact hD) hS dX4_readCharacter_37
  · by_cases c_2 : (x 7 0) = 3
    · refine lv_lookup (tgt := 38) (off := 34) hx hb dX4_readCharacter_4 (by decide) (by rw [c_2]; rfl) (by decide) ?_
      refine lv_aload_n hx hb dX4_readCharacter_38 rfl (lv_at hl 0 rfl) ?_
      refine lv_iload_n hx hb dX4_readCharacter_39 rfl (lv_at hl 1 rfl) ?_
      refine cl_i (va_runV (As := [.int ch]) (rest := []) ⟨hx, hb, hml, hown, hts⟩ (c_X4_readDigit l D cy a x ch H.size hti) (cwV 1 hts gX4_readCharacter_X4_readDigit rfl rfl rfl (by decide +kernel) ⟨Nat.le_of_ble_eq_true rfl, Nat.le_of_ble_eq_true rfl⟩) ⟨blU, va_recv hK hP (ci := 3) (q0 := 0) rfl rfl, preU hP hD (pmI _) hK hE hS hA⟩ rfl rfl hl.1 rfl (lv_room (Nat.le_of_ble_eq_true rfl)) dX4_readCharacter_40 ⟨Nat.le_of_ble_eq_true rfl, Nat.le_of_ble_eq_true rfl⟩) hP hD (pmI _) hS hA (fun H locs hP hD hS => ?_)
      have hP : va_P D vwCl (cT cy a (w_X4_readDigit x ch)) H := vP_perm hP (pmI _).symm
      have hD : va_D A (cT cy a (w_X4_readDigit x ch)) := vD_perm hD (pmI _).symm
      have hr9 : (r_X4_readDigit x ch) = (r_X4_readCharacter x ch) := by unfold r_X4_readCharacter; simp only [if_neg c_1, if_pos c_2, if_true, if_false]
      have hw9 : (w_X4_readCharacter x ch) = (w_X4_readDigit x ch) := by unfold w_X4_readCharacter; simp only [if_neg c_1, if_pos c_2, if_true, if_false]
      exact hret _ H locs _ ls hr9 (by rw [hw9]; exact hP) (by rw [hw9]; exact hD) hS dX4_readCharacter_43
    · refine lv_lookup (tgt := 44) (off := 40) hx hb dX4_readCharacter_4 (by decide) (by rw [lv_osw c_1 (by decide)]; rw [lv_osw c_2 (by decide)]; rfl) (by decide) ?_
      refine lv_aload_n hx hb dX4_readCharacter_44 rfl (lv_at hl 0 rfl) ?_
      refine lv_iload_n hx hb dX4_readCharacter_45 rfl (lv_at hl 1 rfl) ?_
      refine cl_i (va_runV (As := [.int ch]) (rest := []) ⟨hx, hb, hml, hown, hts⟩ (c_X4_readItem l D cy a x ch H.size hti.choose_spec.2.opn) (cwV 1 hts gX4_readCharacter_X4_readItem rfl rfl rfl (by decide +kernel) ⟨Nat.le_of_ble_eq_true rfl, Nat.le_of_ble_eq_true rfl⟩) ⟨blU, va_recv hK hP (ci := 3) (q0 := 0) rfl rfl, preU hP hD (pmI _) hK hE hS hA⟩ rfl rfl hl.1 rfl (lv_room (Nat.le_of_ble_eq_true rfl)) dX4_readCharacter_46 ⟨Nat.le_of_ble_eq_true rfl, Nat.le_of_ble_eq_true rfl⟩) hP hD (pmI _) hS hA (fun H locs hP hD hS => ?_)
      have hP : va_P D vwCl (cT cy a (w_X4_readItem x ch)) H := vP_perm hP (pmI _).symm
      have hD : va_D A (cT cy a (w_X4_readItem x ch)) := vD_perm hD (pmI _).symm
      have hr9 : (r_X4_readItem x ch) = (r_X4_readCharacter x ch) := by unfold r_X4_readCharacter; simp only [if_neg c_1, if_neg c_2, if_true, if_false]
      have hw9 : (w_X4_readCharacter x ch) = (w_X4_readItem x ch) := by unfold w_X4_readCharacter; simp only [if_neg c_1, if_neg c_2, if_true, if_false]
      exact hret _ H locs _ ls hr9 (by rw [hw9]; exact hP) (by rw [hw9]; exact hD) hS dX4_readCharacter_49

