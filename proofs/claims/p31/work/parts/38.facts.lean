/-! ===== the law's facts: calls that throw ===== -/
theorem rm_of {x dd : Int32} {n d : Nat} (hx : x = nI n) (hn : n < 2 ^ 31) (hd : dd = nI d) (h0 : 0 < d) (hd2 : d < 2 ^ 31) : x - x / dd * dd = nI (n % d) := by
  subst hx
  subst hd
  exact pk_rem hn h0 hd2
theorem ti_add {c y : Int32} {n k : Nat} (hc : c = nI n) (hy : y = nI k) (h : n + k < 2 ^ 31) : (c + y).toInt = (n : Int) + k := by
  subst hc
  subst hy
  rw [nI_add, nI_toInt h]
  omega
theorem ne_hi {a k : Int32} {n : Int} (h : n < a.toInt) (hk : k.toInt ≤ n) : ¬ a = k := fun e => by
  subst e
  omega
theorem shl_z {z : Nat} (h1 : 2 ≤ z) (h2 : z ≤ 6) : (1 : Int32) <<< (nI z &&& 31) = nI (2 ^ z) := by
  have hk : z = 2 ∨ z = 3 ∨ z = 4 ∨ z = 5 ∨ z = 6 := by omega
  rcases hk with rfl | rfl | rfl | rfl | rfl <;> decide +kernel
theorem chkD_bad {d : Int32} (h : 1 < d.toInt ∨ d.toInt < 0) : o_X5_checkDesk d = -9999001 := by
  have h1 : r_X5_isDesk d = 0 := by
    unfold r_X5_isDesk
    by_cases h0 : d < 0
    · rw [if_pos h0]
    · have h2 : ¬ d.toInt < 0 := fun q => h0 ((fa_lt' d 0).mpr q)
      rw [if_neg h0, if_pos ((fa_le' 2 d).mpr (show (2 : Int) ≤ d.toInt by omega))]
  unfold o_X5_checkDesk
  rw [if_pos h1]
theorem chkD_ok {d : Int32} (h : d = 0 ∨ d = 1) : o_X5_checkDesk d = 0 := by
  rcases h with rfl | rfl <;> decide +kernel
theorem chkP_bad {d : Int32} (h : 25 < d.toInt ∨ d.toInt < 0) : o_X5_checkPlace d = -9999001 := by
  have h1 : r_X5_isPlace d = 0 := by
    unfold r_X5_isPlace
    by_cases h0 : d < 0
    · rw [if_pos h0]
    · have h2 : ¬ d.toInt < 0 := fun q => h0 ((fa_lt' d 0).mpr q)
      rw [if_neg h0, if_pos ((fa_le' 26 d).mpr (show (26 : Int) ≤ d.toInt by omega))]
  unfold o_X5_checkPlace
  rw [if_pos h1]
theorem chkP_ok {p : Nat} (h : p < 26) : o_X5_checkPlace (nI p) = 0 := by
  have h1 : r_X5_isPlace (nI p) = 1 := by
    unfold r_X5_isPlace
    rw [if_neg (nI_pos (by omega)), if_neg (show ¬ (26 : Int32) ≤ nI p from nI_ge (a := p) (b := 26) h (by decide))]
  unfold o_X5_checkPlace
  rw [h1, if_neg (by decide)]
theorem chkS_bad {d : Int32} (h : 1 < d.toInt ∨ d.toInt < 0) : o_X5_checkSlot d = -9999001 := by
  unfold o_X5_checkSlot
  by_cases h0 : d < 0
  · rw [if_pos h0]
  · have h2 : ¬ d.toInt < 0 := fun q => h0 ((fa_lt' d 0).mpr q)
    rw [if_neg h0, if_neg (fun q => by have h3 : d.toInt < 2 := (fa_lt' d 2).mp q; omega)]
theorem chkN_bad {V : BV} {z n : Nat} (hz : V.2.1.1 0 0 = nI z) (h1 : 2 ≤ z) (h2 : z ≤ 6) (hn : 2 ^ z ≤ n) (hn2 : n < 2 ^ 31) : o_X5_checkNote V (nI n) = -9999001 := by
  have h3 : r_X3_isNote V.2.1 (nI n) = 0 := by
    unfold r_X3_isNote
    rw [if_neg (nI_pos hn2), hz, shl_z h1 h2, if_pos (nI_le hn hn2)]
  unfold o_X5_checkNote
  rw [if_pos h3]
theorem chkN_ok {V : BV} {z n : Nat} (hz : V.2.1.1 0 0 = nI z) (h1 : 2 ≤ z) (h2 : z ≤ 6) (hn : n < 2 ^ z) : o_X5_checkNote V (nI n) = 0 := by
  have h64 : 2 ^ z ≤ 64 := Nat.le_trans (Nat.pow_le_pow_right (by decide) h2) (by decide)
  have h3 : r_X3_isNote V.2.1 (nI n) = 1 := by
    unfold r_X3_isNote
    rw [if_neg (nI_pos (by omega)), hz, shl_z h1 h2, if_neg (nI_ge hn (by omega))]
  unfold o_X5_checkNote
  rw [h3, if_neg (by decide)]
theorem fa_ab (V : BV) {a : Int32} (b c : Int32) (h : 9 < a.toInt) : r_L_call V 1 a b c = -9999002 ∧ w_L_call V 1 a b c = V := by
  refine ⟨?_, wc_1 V a b c⟩
  have e : o_X5_about V a = (-9999002, 0) := by
    unfold o_X5_about
    rw [if_neg (ne_hi h (by decide)), if_neg (ne_hi h (by decide)), if_neg (ne_hi h (by decide)), if_neg (ne_hi h (by decide)), if_neg (ne_hi h (by decide)), if_neg (ne_hi h (by decide)), if_neg (ne_hi h (by decide)), if_neg (ne_hi h (by decide)), if_neg (ne_hi h (by decide)), if_neg (ne_hi h (by decide))]
  rw [rc_1]
  unfold r_L_tryAbout
  rw [e]
  exact if_neg (by decide)
theorem fa_dk (V : BV) {d : Int32} (b c : Int32) (h : 1 < d.toInt ∨ d.toInt < 0) : r_L_call V 2 d b c = -9999001 ∧ w_L_call V 2 d b c = V := by
  refine ⟨?_, wc_2 V d b c⟩
  have e : o_X5_desk V d b = (-9999001, 0) := by
    unfold o_X5_desk
    rw [chkD_bad h, if_neg (by decide)]
  rw [rc_2]
  unfold r_L_tryDesk
  rw [e]
  exact if_neg (by decide)
theorem fa_dk5 (V : BV) {d : Int32} (c : Int32) (hd : d = 0 ∨ d = 1) : r_L_call V 2 d 5 c = -9999002 ∧ w_L_call V 2 d 5 c = V := by
  refine ⟨?_, wc_2 V d 5 c⟩
  have e : o_X5_desk V d 5 = (-9999002, 0) := by
    unfold o_X5_desk
    rw [chkD_ok hd, if_pos rfl]
    rcases hd with rfl | rfl
    · rw [if_pos rfl, if_neg (by decide), if_neg (by decide), if_neg (by decide), if_neg (by decide), if_neg (by decide)]
    · rw [if_neg (by decide), if_neg (by decide), if_neg (by decide), if_neg (by decide), if_neg (by decide), if_neg (by decide)]
  rw [rc_2]
  unfold r_L_tryDesk
  rw [e]
  exact if_neg (by decide)
theorem fa_nt (V : BV) {d : Int32} (i c : Int32) (h : 1 < d.toInt ∨ d.toInt < 0) : r_L_call V 3 d i c = -9999001 ∧ w_L_call V 3 d i c = V := by
  refine ⟨?_, wc_3 V d i c⟩
  have e : o_X5_note V d i c = (-9999001, 0) := by
    unfold o_X5_note
    rw [chkD_bad h, if_neg (by decide)]
  rw [rc_3]
  unfold r_L_tryNote
  rw [e]
  exact if_neg (by decide)
theorem fa_ntN (V : BV) {d i : Int32} (c : Int32) (hd : d = 0 ∨ d = 1) (h : o_X5_checkNote V i = -9999001) : r_L_call V 3 d i c = -9999001 ∧ w_L_call V 3 d i c = V := by
  refine ⟨?_, wc_3 V d i c⟩
  have e : o_X5_note V d i c = (-9999001, 0) := by
    unfold o_X5_note
    rw [chkD_ok hd, if_pos rfl, h, if_neg (by decide)]
  rw [rc_3]
  unfold r_L_tryNote
  rw [e]
  exact if_neg (by decide)
theorem fa_nt4 (V : BV) {d i : Int32} (hd : d = 0 ∨ d = 1) (h : o_X5_checkNote V i = 0) : r_L_call V 3 d i 4 = -9999002 ∧ w_L_call V 3 d i 4 = V := by
  refine ⟨?_, wc_3 V d i 4⟩
  have e : o_X5_note V d i 4 = (-9999002, 0) := by
    unfold o_X5_note
    rw [chkD_ok hd, if_pos rfl, h, if_pos rfl]
    rcases hd with rfl | rfl
    · rw [if_pos rfl, if_neg (by decide), if_neg (by decide), if_neg (by decide), if_neg (by decide)]
    · rw [if_neg (by decide), if_neg (by decide), if_neg (by decide), if_neg (by decide), if_neg (by decide)]
  rw [rc_3]
  unfold r_L_tryNote
  rw [e]
  exact if_neg (by decide)
theorem fa_pl (V : BV) {p : Int32} (b c : Int32) (h : 25 < p.toInt ∨ p.toInt < 0) : r_L_call V 4 p b c = -9999001 ∧ w_L_call V 4 p b c = V := by
  refine ⟨?_, wc_4 V p b c⟩
  have e : o_X5_place V p b = (-9999001, 0) := by
    unfold o_X5_place
    rw [chkP_bad h, if_neg (by decide)]
  rw [rc_4]
  unfold r_L_tryPlace
  rw [e]
  exact if_neg (by decide)
theorem fa_pl5 (V : BV) {p : Int32} (c : Int32) (h : o_X5_checkPlace p = 0) : r_L_call V 4 p 5 c = -9999002 ∧ w_L_call V 4 p 5 c = V := by
  refine ⟨?_, wc_4 V p 5 c⟩
  have e : o_X5_place V p 5 = (-9999002, 0) := by
    unfold o_X5_place
    rw [h, if_pos rfl, if_neg (by decide), if_neg (by decide), if_neg (by decide), if_neg (by decide), if_neg (by decide)]
  rw [rc_4]
  unfold r_L_tryPlace
  rw [e]
  exact if_neg (by decide)
theorem fa_pa (V : BV) {d : Int32} (b c : Int32) (h : 1 < d.toInt ∨ d.toInt < 0) : r_L_call V 5 d b c = -9999001 ∧ w_L_call V 5 d b c = V := by
  refine ⟨?_, wc_5 V d b c⟩
  have e : o_X5_path V d b = (-9999001, 0) := by
    unfold o_X5_path
    rw [chkD_bad h, if_neg (by decide)]
  rw [rc_5]
  unfold r_L_tryPath
  rw [e]
  exact if_neg (by decide)
theorem fa_paP (V : BV) {d p : Int32} (c : Int32) (hd : d = 0 ∨ d = 1) (h : 25 < p.toInt ∨ p.toInt < 0) : r_L_call V 5 d p c = -9999001 ∧ w_L_call V 5 d p c = V := by
  refine ⟨?_, wc_5 V d p c⟩
  have e : o_X5_path V d p = (-9999001, 0) := by
    unfold o_X5_path
    rw [chkD_ok hd, if_pos rfl, chkP_bad h, if_neg (by decide)]
  rw [rc_5]
  unfold r_L_tryPath
  rw [e]
  exact if_neg (by decide)
theorem fa_no (V : BV) {d : Int32} (b c : Int32) (h : 1 < d.toInt ∨ d.toInt < 0) : r_L_call V 6 d b c = -9999001 ∧ w_L_call V 6 d b c = V := by
  refine ⟨?_, wc_6 V d b c⟩
  have e : o_X5_noteOf V d b = (-9999001, 0) := by
    unfold o_X5_noteOf
    rw [chkD_bad h, if_neg (by decide)]
  rw [rc_6]
  unfold r_L_tryNumber
  rw [e]
  exact if_neg (by decide)
theorem fa_sh (V : BV) {p : Int32} (b c : Int32) (h : 25 < p.toInt ∨ p.toInt < 0) : r_L_call V 7 p b c = -9999001 ∧ w_L_call V 7 p b c = V := by
  refine ⟨?_, wc_7 V p b c⟩
  have e : o_X5_share V p = (-9999001, 0) := by
    unfold o_X5_share
    rw [chkP_bad h, if_neg (by decide)]
  rw [rc_7]
  unfold r_L_tryShare
  rw [e]
  exact if_neg (by decide)
theorem fa_tu (V : BV) {d : Int32} (b c : Int32) (h : 1 < d.toInt ∨ d.toInt < 0) : r_L_call V 8 d b c = -9999001 ∧ w_L_call V 8 d b c = V := by
  have e : o_X5_setDesk V d b c = (-9999001, 0) := by
    unfold o_X5_setDesk
    rw [chkD_bad h, if_neg (by decide)]
  constructor
  · rw [rc_8]
    unfold r_L_tryTune
    rw [e]
    exact if_neg (by decide)
  · rw [wc_8]
    unfold w_X5_setDesk
    rw [chkD_bad h, if_neg (by decide)]
theorem fa_tuS (V : BV) {d b c : Int32} (hd : d = 0 ∨ d = 1) (h : r_X5_isDeskSetting b c = 0) : r_L_call V 8 d b c = -9999002 ∧ w_L_call V 8 d b c = V := by
  have e : o_X5_setDesk V d b c = (-9999002, 0) := by
    unfold o_X5_setDesk
    rw [chkD_ok hd, if_pos rfl]
    rcases hd with rfl | rfl
    · rw [if_pos rfl, if_pos h]
    · rw [if_neg (by decide), if_pos h]
  constructor
  · rw [rc_8]
    unfold r_L_tryTune
    rw [e]
    exact if_neg (by decide)
  · rw [wc_8]
    unfold w_X5_setDesk
    rw [chkD_ok hd, if_pos rfl]
    rcases hd with rfl | rfl
    · rw [if_pos rfl, if_pos h]
    · rw [if_neg (by decide), if_pos h]
theorem ds_0 {c : Int32} (h : 4 < c.toInt) : r_X5_isDeskSetting 0 c = 0 := by
  unfold r_X5_isDeskSetting
  rw [if_neg (by decide), if_neg (by decide), if_neg (fun q => by have h3 : c.toInt < 0 := (fa_lt' c 0).mp q; omega), if_pos (show dmost (0 : Int32).toNatClampNeg < c from (fa_lt' 4 c).mpr h)]
theorem cs_2 {c : Int32} (h : 9 < c.toInt) : r_X5_isCommonSetting 2 c = 0 := by
  unfold r_X5_isCommonSetting
  rw [if_neg (by decide), if_neg (by decide), if_neg (fun q => by have h3 : c.toInt < 0 := (fa_lt' c 0).mp q; omega), if_pos (show cmost (2 : Int32).toNatClampNeg < c from (fa_lt' 9 c).mpr h)]
theorem fa_se (V : BV) {a b : Int32} (c : Int32) (h : r_X5_isCommonSetting a b = 0) : r_L_call V 9 a b c = -9999002 ∧ w_L_call V 9 a b c = V := by
  have e : o_X5_set V a b = (-9999002, 0) := by
    unfold o_X5_set
    rw [if_pos h]
  constructor
  · rw [rc_9]
    unfold r_L_trySet
    rw [e]
    exact if_neg (by decide)
  · rw [wc_9]
    unfold w_X5_set
    rw [if_pos h]
theorem fa_gr (V : BV) {d i : Int32} (c : Int32) (hd : d = 0 ∨ d = 1) (h : o_X5_checkNote V i = -9999001) : r_L_call V 10 d i c = -9999001 ∧ w_L_call V 10 d i c = V := by
  have e : o_X5_strengthen V d i c = (-9999001, 0) := by
    unfold o_X5_strengthen
    rw [chkD_ok hd, if_pos rfl, h, if_neg (by decide)]
  constructor
  · rw [rc_10]
    unfold r_L_tryGrow
    rw [e]
    exact if_neg (by decide)
  · rw [wc_10]
    unfold w_X5_strengthen
    rw [chkD_ok hd, if_pos rfl, h, if_neg (by decide)]
theorem fa_grS (V : BV) {d i c : Int32} (hd : d = 0 ∨ d = 1) (h : o_X5_checkNote V i = 0) (hs : r_X3_isStrength V.2.1 c = 0) : r_L_call V 10 d i c = -9999002 ∧ w_L_call V 10 d i c = V := by
  have e : o_X5_strengthen V d i c = (-9999002, 0) := by
    unfold o_X5_strengthen
    rw [chkD_ok hd, if_pos rfl, h, if_pos rfl]
    rcases hd with rfl | rfl
    · rw [if_pos rfl, if_pos hs]
    · rw [if_neg (by decide), if_pos hs]
  constructor
  · rw [rc_10]
    unfold r_L_tryGrow
    rw [e]
    exact if_neg (by decide)
  · rw [wc_10]
    unfold w_X5_strengthen
    rw [chkD_ok hd, if_pos rfl, h, if_pos rfl]
    rcases hd with rfl | rfl
    · rw [if_pos rfl, if_pos hs]
    · rw [if_neg (by decide), if_pos hs]
theorem st_2m {V : BV} {md : Int32} (h : V.2.1.1 0 1 = md) : r_X3_isStrength V.2.1 ((2 : Int32) * md) = 0 := by
  unfold r_X3_isStrength
  rw [h]
  split
  · rfl
  · rw [if_pos (Int32.le_refl _)]
theorem fa_go (V : BV) {p tk : Int32} (h : 25 < p.toInt ∨ p.toInt < 0) : r_L_tryGo V p tk = -9999001 ∧ w_X5_branch V p tk = V := by
  constructor
  · unfold r_L_tryGo
    have e : o_X5_branch V p tk = (-9999001, 0) := by
      unfold o_X5_branch
      rw [chkP_bad h, if_neg (by decide)]
    rw [e]
    exact if_neg (by decide)
  · unfold w_X5_branch
    rw [chkP_bad h, if_neg (by decide)]
theorem fa_mi (V : BV) {d : Int32} (b c : Int32) (h : 1 < d.toInt ∨ d.toInt < 0) : r_L_call V 13 d b c = -9999001 ∧ w_L_call V 13 d b c = V := by
  have e : o_X5_bestMixing V d = (-9999001, 0) := by
    unfold o_X5_bestMixing
    rw [chkD_bad h, if_neg (by decide)]
  constructor
  · rw [rc_13]
    unfold r_L_tryMixing
    rw [e]
    exact if_neg (by decide)
  · rw [wc_13]
    unfold w_X5_bestMixing
    rw [chkD_bad h, if_neg (by decide)]
theorem fa_le (V : BV) {d : Int32} (b c : Int32) (h : 1 < d.toInt ∨ d.toInt < 0) : r_L_call V 14 d b c = -9999001 ∧ w_L_call V 14 d b c = V := by
  have e : o_X5_bestLength V d = (-9999001, 0) := by
    unfold o_X5_bestLength
    rw [chkD_bad h, if_neg (by decide)]
  constructor
  · rw [rc_14]
    unfold r_L_tryLength
    rw [e]
    exact if_neg (by decide)
  · rw [wc_14]
    unfold w_X5_bestLength
    rw [chkD_bad h, if_neg (by decide)]
theorem fa_sg (V : BV) {d p : Int32} (c : Int32) (hd : d = 0 ∨ d = 1) (h : 25 < p.toInt ∨ p.toInt < 0) : r_L_call V 15 d p c = -9999001 ∧ w_L_call V 15 d p c = V := by
  refine ⟨?_, wc_15 V d p c⟩
  have e : o_X5_sharing d p = (-9999001, 0) := by
    unfold o_X5_sharing
    rw [chkD_ok hd, if_pos rfl, chkP_bad h]
  rw [rc_15]
  unfold r_L_trySharing
  rw [e]
  exact if_neg (by decide)
theorem fa_ho (V : BV) {p : Int32} (b c : Int32) (h : 25 < p.toInt ∨ p.toInt < 0) : r_L_call V 16 p b c = -9999001 ∧ w_L_call V 16 p b c = V := by
  have e : o_X5_holds V p = (-9999001, 0) := by
    unfold o_X5_holds
    rw [chkP_bad h, if_neg (by decide)]
  constructor
  · rw [rc_16]
    unfold r_L_tryHolds
    rw [e]
    exact if_neg (by decide)
  · rw [wc_16]
    unfold w_X5_holds
    rw [chkP_bad h, if_neg (by decide)]
theorem fa_ke (V : BV) {d : Int32} (b c : Int32) (h : 1 < d.toInt ∨ d.toInt < 0) : r_L_call V 17 d b c = -9999001 ∧ w_L_call V 17 d b c = V := by
  have e : o_X5_save V d = (-9999001, 0) := by
    unfold o_X5_save
    rw [chkS_bad h, if_neg (by decide)]
  constructor
  · rw [rc_17]
    unfold r_L_tryKeep
    rw [e]
    exact if_neg (by decide)
  · rw [wc_17]
    unfold w_X5_save
    rw [chkS_bad h, if_neg (by decide)]
theorem fa_ba (V : BV) {d : Int32} (b c : Int32) (h : 1 < d.toInt ∨ d.toInt < 0) : r_L_call V 18 d b c = -9999001 ∧ w_L_call V 18 d b c = V := by
  have e : o_X5_restore V d = (-9999001, 0) := by
    unfold o_X5_restore
    rw [chkS_bad h, if_neg (by decide)]
  constructor
  · rw [rc_18]
    unfold r_L_tryBack
    rw [e]
    exact if_neg (by decide)
  · rw [wc_18]
    unfold w_X5_restore
    rw [chkS_bad h, if_neg (by decide)]
theorem fa_ap (V : BV) {ch : Int32} (b c : Int32) (h : 255 < ch.toInt) : r_L_call V 0 ch b c = -9999002 ∧ w_L_call V 0 ch b c = V := by
  have h1 : ¬ ch < 0 := fun q => by have h3 : ch.toInt < 0 := (fa_lt' ch 0).mp q; omega
  have h2 : ¬ ch ≤ 255 := fun q => by have h3 : ch.toInt ≤ 255 := (fa_le' ch 255).mp q; omega
  have e : o_X5_append V ch = (-9999002, 0) := by
    unfold o_X5_append
    rw [if_neg h1, if_neg h2]
  constructor
  · rw [rc_0]
    unfold r_L_tryAppend
    rw [e]
    exact if_neg (by decide)
  · rw [wc_0]
    unfold w_X5_append
    rw [if_neg h1, if_neg h2]
theorem fa_si (V : BV) (seed : Int64) : r_L_trySimulate V seed 0 = -9999002 ∧ w_X5_simulate V seed 0 = V := by
  constructor
  · have e : o_X5_simulate V seed 0 = (-9999002, 0) := by
      unfold o_X5_simulate
      exact if_pos (by decide)
    unfold r_L_trySimulate
    rw [e]
    exact if_neg (by decide)
  · unfold w_X5_simulate
    rw [if_pos (by decide)]
theorem fa_sc4 (V : BV) (sc : Int64) : r_L_tryScript V 4 sc = -9999002 ∧ w_X5_runScript V 4 sc = V := by
  constructor
  · have e : o_X5_runScript V 4 sc = (-9999002, 0) := by
      unfold o_X5_runScript
      rw [if_neg (by decide), if_neg (by decide)]
    unfold r_L_tryScript
    rw [e]
    exact if_neg (by decide)
  · unfold w_X5_runScript
    rw [if_neg (by decide), if_neg (by decide)]
theorem fa_sc1 (V : BV) {x : Int32} {n : Nat} (hx : x = nI n) (hn : n < 2 ^ 31) : r_L_tryScript V 1 ((100000 : Int64) + x.toInt64) = -9999002 ∧ w_X5_runScript V 1 ((100000 : Int64) + x.toInt64) = V := by
  have e : (100000 : Int64) + x.toInt64 = lN (100000 + n) := by
    rw [hx, nI_l hn]
    exact lN_add 100000 n
  have h1 : ¬ lg_cmp (lN (100000 + n)) 0 < 0 := fun q => by
    have h3 : lN (100000 + n) < lN 0 := (lg_cmp_lt _ _).mp q
    have h4 := (pk_lLT (by omega) (by omega)).mp h3
    omega
  have h2 : ¬ lg_cmp (r_X5_withoutLastGroups (lN (100000 + n)) 1) 0 = 0 := fun q => by
    have h3 : r_X5_withoutLastGroups (lN (100000 + n)) 1 = lN 0 := (lg_cmp_eq _ _).mp q
    have h5 : r_X5_withoutLastGroups (lN (100000 + n)) 1 = lN (100000 + n) / lN 100000 := rfl
    rw [h5, pk_lDiv (by omega) (by omega) (by omega)] at h3
    have h4 := (pk_lEQ (by omega) (by omega)).mp h3
    omega
  rw [e]
  constructor
  · have e : o_X5_runScript V 1 (lN (100000 + n)) = (-9999002, 0) := by
      unfold o_X5_runScript
      rw [if_neg (by decide), if_pos (by decide), if_neg h1, if_neg h2]
    unfold r_L_tryScript
    rw [e]
    exact if_neg (by decide)
  · unfold w_X5_runScript
    rw [if_neg (by decide), if_pos (by decide), if_neg h1, if_neg h2]
theorem fa_sc2 (V : BV) {x : Int32} {n : Nat} (hx : x = nI n) (hn : n < 2 ^ 31) : r_L_tryScript V 2 ((-1 : Int64) - x.toInt64) = -9999002 ∧ w_X5_runScript V 2 ((-1 : Int64) - x.toInt64) = V := by
  have e : ((-1 : Int64) - x.toInt64).toInt = -1 - (n : Int) := by
    rw [hx, nI_l hn, Int64.toInt_sub, pk_lT (by omega), show (-1 : Int64).toInt = -1 from rfl]
    exact Int.bmod_eq_of_le (by omega) (by omega)
  have h1 : lg_cmp ((-1 : Int64) - x.toInt64) 0 < 0 := (lg_cmp_lt _ _).mpr (Int64.lt_iff_toInt_lt.mpr (by rw [e, show (0 : Int64).toInt = 0 from rfl]; omega))
  generalize (-1 : Int64) - x.toInt64 = sc at h1 ⊢
  constructor
  · have e : o_X5_runScript V 2 sc = (-9999002, 0) := by
      unfold o_X5_runScript
      rw [if_neg (by decide), if_pos (by decide), if_pos h1]
    unfold r_L_tryScript
    rw [e]
    exact if_neg (by decide)
  · unfold w_X5_runScript
    rw [if_neg (by decide), if_pos (by decide), if_pos h1]
theorem fa_i7 (V : BV) (b c : Int32) : r_L_call V 1 7 b c = V.2.1.1 0 0 ∧ w_L_call V 1 7 b c = V := by
  refine ⟨?_, wc_1 V 7 b c⟩
  rw [rc_1]
  rfl
theorem fa_i8 (V : BV) (b c : Int32) : r_L_call V 1 8 b c = V.2.1.1 0 1 ∧ w_L_call V 1 8 b c = V := by
  refine ⟨?_, wc_1 V 8 b c⟩
  rw [rc_1]
  rfl
