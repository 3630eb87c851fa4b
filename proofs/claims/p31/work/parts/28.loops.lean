/-! ===== loops of BranchNotes ===== -/
theorem common_szok {v : SV} {what val2 : Int32} (h : ¬ r_X5_isCommonSetting what val2 = 0) (hs : szok (v.1 0 0)) : szok ((w_X3_changeBoth v what val2).1 0 0) := by
  show szok (upd (v.1 0) what.toNatClampNeg val2 0)
  unfold upd
  by_cases hw : (0 : Nat) = what.toNatClampNeg
  · rw [if_pos hw]
    unfold r_X5_isCommonSetting at h
    split at h
    · exact absurd rfl h
    · split at h
      · exact absurd rfl h
      · split at h
        · exact absurd rfl h
        · split at h
          · exact absurd rfl h
          · rename_i h3 h4
            rw [← hw] at h3 h4
            have e3 : ¬ val2.toInt < 2 := fun q => h3 ((fa_lt' val2 2).mpr q)
            have e4 : ¬ 6 < val2.toInt := fun q => h4 ((fa_lt' 6 val2).mpr q)
            refine ⟨val2.toInt.toNat, by omega, by omega, ?_⟩
            apply Int32.toInt_inj.mp
            rw [nI_toInt (by omega)]
            omega
  · rw [if_neg hw]
    exact hs
theorem cd_set (v : SV) (d what val2 : Int32) : (w_X3_changeDesk v d what val2).1 0 = v.1 0 := by
  unfold w_X3_changeDesk
  split <;> rfl
theorem succ_szok {v : SV} (g : Int32) (hs : szok (v.1 0 0)) : szok ((w_X2_succeeds v g).1 0 0) := by
  have h1 : ∀ (pl way times : Int32), szok ((w_X2_goOften v pl way times).1 0 0) := fun pl way times => by
    unfold w_X2_goOften
    repeat' split
    all_goals first
      | exact hs
      | (rw [goT_set]; exact hs)
  have h2 : ∀ (d what val2 : Int32), szok ((w_X2_changeDesk v d what val2).1 0 0) := fun d what val2 => by
    unfold w_X2_changeDesk
    repeat' split
    all_goals first
      | exact hs
      | (rw [cd_set]; exact hs)
  have h3 : ∀ (what val2 : Int32), szok ((w_X2_changeBoth v what val2).1 0 0) := fun what val2 => by
    unfold w_X2_changeBoth
    split
    · exact hs
    · rename_i hc
      exact common_szok hc hs
  have h4 : szok ((w_X2_forgetAll v).1 0 0) := hs
  have h5 : ∀ (d i val2 : Int32), szok ((w_X2_makeStrength v d i val2).1 0 0) := fun d i val2 => by
    unfold w_X2_makeStrength
    repeat' split
    all_goals exact hs
  unfold w_X2_succeeds
  repeat' split
  all_goals first
    | exact hs
    | exact h1 _ _ _
    | exact h2 _ _ _
    | exact h3 _ _
    | exact h4
    | exact h5 _ _ _
theorem sim_in (x : Int64) : vp_in ((x.toUInt64 >>> ((33 : Int32).toInt64.toUInt64 &&& Int64.toUInt64 63)).toInt64.toInt32 - (x.toUInt64 >>> ((33 : Int32).toInt64.toUInt64 &&& Int64.toUInt64 63)).toInt64.toInt32 / (8 : Int32) * (8 : Int32)) 26 := by
  have hb : ((33 : Int32).toInt64.toUInt64 &&& Int64.toUInt64 63) = 33 := by decide
  rw [hb]
  obtain ⟨u, hu⟩ : ∃ u, u = x.toUInt64 >>> (33 : UInt64) := ⟨_, rfl⟩
  rw [← hu]
  have h1 : u.toNat < 2 ^ 31 := by
    rw [hu, UInt64.toNat_shiftRight]
    have h2 : (33 : UInt64).toNat % 64 = 33 := rfl
    have h3 : x.toUInt64.toNat < 2 ^ 64 := UInt64.toNat_lt _
    rw [h2, Nat.shiftRight_eq_div_pow]
    exact Nat.div_lt_of_lt_mul (by omega)
  have h4 : u.toInt64.toInt = (u.toNat : Int) := BitVec.toInt_eq_toNat_of_lt (by show 2 * u.toNat < 2 ^ 64; omega)
  have h5 : u.toInt64.toInt32 = nI u.toNat := by
    apply Int32.toInt_inj.mp
    rw [Int64.toInt_toInt32, h4, nI_toInt h1]
    exact Int.bmod_eq_of_le (by omega) (by omega)
  have h6 : nI u.toNat - nI u.toNat / 8 * 8 = nI (u.toNat % 8) := pk_rem (a := u.toNat) (d := 8) h1 (by decide) (by decide)
  rw [h5, h6]
  exact vp_in_nI (by omega) (by decide)

/-- the values of a setting tried one after the other: the best, the trial behind it -/
def bsN (st : SV) (x : RV) (d what : Int32) : Nat → Nat → Int32 → Int32 → SV → Int32 × SV
  | 0, _, best, _, t => (best, t)
  | n + 1, i, best, most, _ => if nI i = 0 then bsN st x d what n (i + 1) (nI i) ((w_X3_goAll (w_X3_changeDesk st d what (nI i)) x).1 7 0) (w_X3_goAll (w_X3_changeDesk st d what (nI i)) x) else if (w_X3_goAll (w_X3_changeDesk st d what (nI i)) x).1 7 0 ≤ most then bsN st x d what n (i + 1) best most (w_X3_goAll (w_X3_changeDesk st d what (nI i)) x) else bsN st x d what n (i + 1) (nI i) ((w_X3_goAll (w_X3_changeDesk st d what (nI i)) x).1 7 0) (w_X3_goAll (w_X3_changeDesk st d what (nI i)) x)
def bsR (V : BV) (d what : Int32) : Int32 × SV := bsN V.2.1 (w_X4_isPlayable V.1) d what ((dmost what.toNatClampNeg).toNatClampNeg + 1) 0 (-99999) 0 V.2.2.1
def r_X5_bestSetting (V : BV) (d what : Int32) : Int32 := if (r_X4_isPlayable V.1) = 0 then (-99999 : Int32) else (bsR V d what).1
def w_X5_bestSetting (V : BV) (d what : Int32) : BV := if (r_X4_isPlayable V.1) = 0 then ((w_X4_isPlayable V.1), V.2) else ((w_X4_isPlayable V.1), V.2.1, (bsR V d what).2, V.2.2.2)
theorem dm6 {what : Int32} (hw : what = 0 ∨ what = 1) : (dmost what.toNatClampNeg).toNatClampNeg ≤ 6 ∧ dmost what.toNatClampNeg = nI (dmost what.toNatClampNeg).toNatClampNeg := by
  rcases hw with rfl | rfl
  · exact ⟨by decide, by decide⟩
  · exact ⟨by decide, by decide⟩

abbrev rX5_bestSetting : Room := { frames := 5, cells := 0, slots := 0, locals := 117 }
theorem inX5_bestSetting_X3 : ∀ w ∈ u_ws RX3 TX3 11, w ∈ wsX5_bestSetting := by decide +kernel
theorem inX5_bestSetting_X5 : ∀ w ∈ u_ws RX5 TX5 6, w ∈ wsX5_bestSetting := by decide +kernel
set_option maxHeartbeats 4000000 in
set_option maxRecDepth 100000 in
theorem c_X5_bestSetting (l : Launch) (D : va_G) (cy : Nat → ClassId) (ad : AD) (V : BV) (d : Int32) (what : Int32) (sz : Nat) (hd : d = 0 ∨ d = 1) (hw : what = 0 ∨ what = 1) (hsz2 : szok (V.2.1.1 0 0)) (hlen : ∃ n, n ≤ 80 ∧ V.1 3 0 = nI n) (hg : ∃ g, g < 26 ∧ V.1 6 0 = nI g) : CI l yX5_bestSetting wsX5_bestSetting rX5_bestSetting D cy [.ref (ad 0 0 0), .int d, .int what] (wB cy ad V) sz (r_X5_bestSetting V d what) (wB cy ad (w_X5_bestSetting V d what)) 0 0 := by
  refine st_i (ty := .int) (cc := cX5_bestSetting) (maxL := 6) (by decide) rfl rfl (Nat.le_of_ble_eq_true rfl) ?_
  intro pp e s m below meth c A Q ls hx hb hts hown hml hlocks hsz hP hK hD hE hA hl hret
  subst hsz
  have hown : s.vm.findClass RX5 = some m.cls := hown
  have hl : lv_has ls 6 [(0, .ref (ad 0 0 0)), (1, .int d), (2, .int what)] := hl
  obtain ⟨H, hH⟩ : ∃ H, H = s.heap := ⟨_, rfl⟩
  rw [← hH] at hP ⊢
  have hS : va_S A s.heap H [] := by rw [hH]; exact va_S.rf
  obtain ⟨locs, hlo⟩ : ∃ locs : List Loc, locs = [] := ⟨_, rfl⟩
  rw [← hlo] at hS ⊢
  refine lv_aload_n hx hb dX5_bestSetting_0 rfl (lv_at hl 0 rfl) ?_
  refine va_get (D := D) (ci := 4) (v := .ref (ad 0 1 0)) (C := RX5) (T := TX5) (N := 6) hx hb hts inX5_bestSetting_X5 hown hK hP 0 rfl rfl 0 (by decide) (hts _ (List.mem_of_getElem? (i := 1) rfl)) (fun _ h9 => h9) rfl dX5_bestSetting_1 ?_
  refine cl_i (va_runV (As := []) (rest := []) ⟨hx, hb, hml, hown, hts⟩ (c_X4_isPlayable l D cy (ad 0 1) V.1 H.size hlen hg) (cwV 0 hts gX5_bestSetting_X4_isPlayable rfl rfl rfl (by decide +kernel) ⟨Nat.le_of_ble_eq_true rfl, Nat.le_of_ble_eq_true rfl⟩) ⟨blU, va_recv hK hP (ci := 3) (q0 := 3) rfl rfl, preU hP hD (pmB (bB cy ad V) 1 _ (cT cy (ad 0 1) (w_X4_isPlayable V.1)) rfl).1 hK hE hS hA⟩ rfl rfl hl.1 rfl (lv_room (Nat.le_of_ble_eq_true rfl)) dX5_bestSetting_4 ⟨Nat.le_of_ble_eq_true rfl, Nat.le_of_ble_eq_true rfl⟩) hP hD (pmB (bB cy ad V) 1 _ (cT cy (ad 0 1) (w_X4_isPlayable V.1)) rfl).1 hS hA (fun H locs hP hD hS => ?_)
  have hP : va_P D vwCl (wB cy ad ((w_X4_isPlayable V.1), V.2.1, V.2.2.1, V.2.2.2.1, V.2.2.2.2.1, V.2.2.2.2.2.1, V.2.2.2.2.2.2)) H := vP_perm hP (pmB (bB cy ad V) 1 _ (cT cy (ad 0 1) (w_X4_isPlayable V.1)) rfl).2
  have hD : va_D A (wB cy ad ((w_X4_isPlayable V.1), V.2.1, V.2.2.1, V.2.2.2.1, V.2.2.2.2.1, V.2.2.2.2.2.1, V.2.2.2.2.2.2)) := vD_perm hD (pmB (bB cy ad V) 1 _ (cT cy (ad 0 1) (w_X4_isPlayable V.1)) rfl).2
  refine lv_if_ne (tgt := 13) hx hb dX5_bestSetting_7 (by decide) (fun c_1 => ?_) (fun c_1 => ?_)
  · refine lv_ldc (v := (-99999)) hx hb hown (hts _ (List.mem_of_getElem? (i := 2) rfl)) dX5_bestSetting_13 ?_
    refine lv_istore_n (lv' := [(3, .int (-99999 : Int32)), (0, .ref (ad 0 0 0)), (1, .int d), (2, .int what)]) hx hb dX5_bestSetting_15 rfl hl (by decide) rfl (fun ls hl => ?_)
    refine lv_iconst (v := 0) hx hb dX5_bestSetting_16 (by decide) ?_
    refine lv_istore (lv' := [(4, .int (0 : Int32)), (3, .int (-99999 : Int32)), (0, .ref (ad 0 0 0)), (1, .int d), (2, .int what)]) hx hb dX5_bestSetting_17 hl (by decide) rfl (fun ls hl => ?_)
    refine lv_iconst (v := 0) hx hb dX5_bestSetting_19 (by decide) ?_
    refine lv_istore (lv' := [(5, .int (0 : Int32)), (4, .int (0 : Int32)), (3, .int (-99999 : Int32)), (0, .ref (ad 0 0 0)), (1, .int d), (2, .int what)]) hx hb dX5_bestSetting_20 hl (by decide) rfl (fun ls hl => ?_)
    have hloop : ∀ (k i : Nat) (best : Int32) (most : Int32) (t : SV), i + k = (dmost what.toNatClampNeg).toNatClampNeg + 1 → bsN V.2.1 (w_X4_isPlayable V.1) d what k i best most t = bsR V d what → ∀ (H : Heap) (locs : List Loc), va_P D vwCl (wB cy ad ((w_X4_isPlayable V.1), V.2.1, t, V.2.2.2.1, V.2.2.2.2.1, V.2.2.2.2.2.1, V.2.2.2.2.2.2)) H → va_D A (wB cy ad ((w_X4_isPlayable V.1), V.2.1, t, V.2.2.2.1, V.2.2.2.2.1, V.2.2.2.2.2.1, V.2.2.2.2.2.2)) → va_S A s.heap H locs → ∀ ls : Array Slot, lv_has ls 6 [(0, .ref (ad 0 0 0)), (1, .int d), (2, .int what), (3, .int best), (4, .int most), (5, .int (nI i))] → W pp l e rX5_bestSetting s m ([.ref (ad 0 0 0), .int d, .int what] : List Value).toArray below meth c H locs 0 0 Q (F0 m 22 ls []) := by
      intro k
      induction k with
      | zero =>
        intro i best most t hik hq9 H locs hP hD hS ls hl
        have hM := dm6 hw
        refine lv_iload hx hb dX5_bestSetting_22 (lv_at hl 5 rfl) ?_
        obtain ⟨t_2, t_2z, t_2v⟩ := hE.2.2.1
        refine va_gets hx hb t_2z hS hown (hts _ (List.mem_of_getElem? (i := 3) rfl)) (fun _ h9 => h9) dX5_bestSetting_24 ?_
        refine lv_iload_n hx hb dX5_bestSetting_27 rfl (lv_at hl 2 rfl) ?_
        refine va_ti (v := .int (dmost what.toNatClampNeg)) hx hb t_2v hS (by rcases hw with rfl | rfl <;> exact vp_c (by decide)) rfl dX5_bestSetting_28 ?_
        refine lv_icmp_gt (tgt := 100) hx hb dX5_bestSetting_29 (by decide) (fun c_3 => ?_) (fun c_3 => absurd (show dmost what.toNatClampNeg < nI i from by rw [hM.2]; exact nI_lt (by omega) (by omega)) c_3)
        refine lv_iload_n hx hb dX5_bestSetting_100 rfl (lv_at hl 3 rfl) ?_
        have hq7 : (best, t) = bsR V d what := hq9
        have hr9 : best = r_X5_bestSetting V d what := by unfold r_X5_bestSetting; rw [if_neg c_1, ← hq7]
        have hw9 : w_X5_bestSetting V d what = ((w_X4_isPlayable V.1), V.2.1, t, V.2.2.2.1, V.2.2.2.2.1, V.2.2.2.2.2.1, V.2.2.2.2.2.2) := by unfold w_X5_bestSetting; rw [if_neg c_1, ← hq7]
        exact hret _ H locs _ ls hr9 (by rw [hw9]; exact hP) (by rw [hw9]; exact hD) hS dX5_bestSetting_101
      | succ k ih =>
        intro i best most t hik hq9 H locs hP hD hS ls hl
        have hM := dm6 hw
        refine lv_iload hx hb dX5_bestSetting_22 (lv_at hl 5 rfl) ?_
        obtain ⟨t_4, t_4z, t_4v⟩ := hE.2.2.1
        refine va_gets hx hb t_4z hS hown (hts _ (List.mem_of_getElem? (i := 3) rfl)) (fun _ h9 => h9) dX5_bestSetting_24 ?_
        refine lv_iload_n hx hb dX5_bestSetting_27 rfl (lv_at hl 2 rfl) ?_
        refine va_ti (v := .int (dmost what.toNatClampNeg)) hx hb t_4v hS (by rcases hw with rfl | rfl <;> exact vp_c (by decide)) rfl dX5_bestSetting_28 ?_
        refine lv_icmp_gt (tgt := 100) hx hb dX5_bestSetting_29 (by decide) (fun c_5 => absurd c_5 (show ¬ dmost what.toNatClampNeg < nI i from by rw [hM.2]; exact nI_nlt (by omega) (by omega))) (fun c_5 => ?_)
        refine lv_aload_n hx hb dX5_bestSetting_32 rfl (lv_at hl 0 rfl) ?_
        refine va_get (D := D) (ci := 4) (v := .ref (ad 2 0 0)) (C := RX5) (T := TX5) (N := 6) hx hb hts inX5_bestSetting_X5 hown hK hP 0 rfl rfl 2 (by decide) (hts _ (List.mem_of_getElem? (i := 4) rfl)) (fun _ h9 => h9) rfl dX5_bestSetting_33 ?_
        refine lv_aload_n hx hb dX5_bestSetting_36 rfl (lv_at hl 0 rfl) ?_
        refine va_get (D := D) (ci := 4) (v := .ref (ad 1 0 0)) (C := RX5) (T := TX5) (N := 6) hx hb hts inX5_bestSetting_X5 hown hK hP 0 rfl rfl 1 (by decide) (hts _ (List.mem_of_getElem? (i := 5) rfl)) (fun _ h9 => h9) rfl dX5_bestSetting_37 ?_
        refine cl_n (va_runV (As := [.ref (ad 1 0 0)]) (rest := []) ⟨hx, hb, hml, hown, hts⟩ (c_X3_copyFrom l D cy (ad 2) (ad 1) t V.2.1 H.size) (cwV 1 hts gX5_bestSetting_X3_copyFrom rfl rfl rfl (by decide +kernel) ⟨Nat.le_of_ble_eq_true rfl, Nat.le_of_ble_eq_true rfl⟩) ⟨blU, va_recv hK hP (ci := 2) (q0 := 28) rfl rfl, preU hP hD (pmB2 (bB cy ad ((w_X4_isPlayable V.1), V.2.1, t, V.2.2.2.1, V.2.2.2.2.1, V.2.2.2.2.2.1, V.2.2.2.2.2.2)) 3 2 _ _ (cS cy (ad 2) V.2.1) (cS cy (ad 1) V.2.1) rfl rfl).1 hK hE hS hA⟩ rfl rfl hl.1 rfl (lv_room (Nat.le_of_ble_eq_true rfl)) dX5_bestSetting_40 ⟨Nat.le_of_ble_eq_true rfl, Nat.le_of_ble_eq_true rfl⟩) hP hD (pmB2 (bB cy ad ((w_X4_isPlayable V.1), V.2.1, t, V.2.2.2.1, V.2.2.2.2.1, V.2.2.2.2.2.1, V.2.2.2.2.2.2)) 3 2 _ _ (cS cy (ad 2) V.2.1) (cS cy (ad 1) V.2.1) rfl rfl).1 hS hA (fun H locs hP hD hS => ?_)
        have hP : va_P D vwCl (wB cy ad ((w_X4_isPlayable V.1), V.2.1, V.2.1, V.2.2.2.1, V.2.2.2.2.1, V.2.2.2.2.2.1, V.2.2.2.2.2.2)) H := vP_perm hP ((pmB2 (bB cy ad ((w_X4_isPlayable V.1), V.2.1, t, V.2.2.2.1, V.2.2.2.2.1, V.2.2.2.2.2.1, V.2.2.2.2.2.2)) 3 2 _ _ (cS cy (ad 2) V.2.1) (cS cy (ad 1) V.2.1) rfl rfl).2.trans (pmB (bB cy ad ((w_X4_isPlayable V.1), V.2.1, V.2.1, V.2.2.2.1, V.2.2.2.2.1, V.2.2.2.2.2.1, V.2.2.2.2.2.2)) 3 _ (cS cy (ad 2) V.2.1) rfl).1.symm)
        have hD : va_D A (wB cy ad ((w_X4_isPlayable V.1), V.2.1, V.2.1, V.2.2.2.1, V.2.2.2.2.1, V.2.2.2.2.2.1, V.2.2.2.2.2.2)) := vD_perm hD ((pmB2 (bB cy ad ((w_X4_isPlayable V.1), V.2.1, t, V.2.2.2.1, V.2.2.2.2.1, V.2.2.2.2.2.1, V.2.2.2.2.2.2)) 3 2 _ _ (cS cy (ad 2) V.2.1) (cS cy (ad 1) V.2.1) rfl rfl).2.trans (pmB (bB cy ad ((w_X4_isPlayable V.1), V.2.1, V.2.1, V.2.2.2.1, V.2.2.2.2.1, V.2.2.2.2.2.1, V.2.2.2.2.2.2)) 3 _ (cS cy (ad 2) V.2.1) rfl).1.symm)
        refine lv_aload_n hx hb dX5_bestSetting_43 rfl (lv_at hl 0 rfl) ?_
        refine va_get (D := D) (ci := 4) (v := .ref (ad 2 0 0)) (C := RX5) (T := TX5) (N := 6) hx hb hts inX5_bestSetting_X5 hown hK hP 0 rfl rfl 2 (by decide) (hts _ (List.mem_of_getElem? (i := 4) rfl)) (fun _ h9 => h9) rfl dX5_bestSetting_44 ?_
        refine lv_iload_n hx hb dX5_bestSetting_47 rfl (lv_at hl 1 rfl) ?_
        refine lv_iload_n hx hb dX5_bestSetting_48 rfl (lv_at hl 2 rfl) ?_
        refine lv_iload hx hb dX5_bestSetting_49 (lv_at hl 5 rfl) ?_
        refine cl_n (va_runV (As := [.int d, .int what, .int (nI i)]) (rest := []) ⟨hx, hb, hml, hown, hts⟩ (c_X3_changeDesk l D cy (ad 2) V.2.1 d what (nI i) H.size hd (by rcases hw with rfl | rfl <;> exact vp_c (by decide))) (cwV 3 hts gX5_bestSetting_X3_changeDesk rfl rfl rfl (by decide +kernel) ⟨Nat.le_of_ble_eq_true rfl, Nat.le_of_ble_eq_true rfl⟩) ⟨blU, va_recv hK hP (ci := 2) (q0 := 28) rfl rfl, preU hP hD (pmB (bB cy ad ((w_X4_isPlayable V.1), V.2.1, V.2.1, V.2.2.2.1, V.2.2.2.2.1, V.2.2.2.2.2.1, V.2.2.2.2.2.2)) 3 _ (cS cy (ad 2) (w_X3_changeDesk V.2.1 d what (nI i))) rfl).1 hK hE hS hA⟩ rfl rfl hl.1 rfl (lv_room (Nat.le_of_ble_eq_true rfl)) dX5_bestSetting_51 ⟨Nat.le_of_ble_eq_true rfl, Nat.le_of_ble_eq_true rfl⟩) hP hD (pmB (bB cy ad ((w_X4_isPlayable V.1), V.2.1, V.2.1, V.2.2.2.1, V.2.2.2.2.1, V.2.2.2.2.2.1, V.2.2.2.2.2.2)) 3 _ (cS cy (ad 2) (w_X3_changeDesk V.2.1 d what (nI i))) rfl).1 hS hA (fun H locs hP hD hS => ?_)
        have hP : va_P D vwCl (wB cy ad ((w_X4_isPlayable V.1), V.2.1, (w_X3_changeDesk V.2.1 d what (nI i)), V.2.2.2.1, V.2.2.2.2.1, V.2.2.2.2.2.1, V.2.2.2.2.2.2)) H := vP_perm hP (pmB (bB cy ad ((w_X4_isPlayable V.1), V.2.1, V.2.1, V.2.2.2.1, V.2.2.2.2.1, V.2.2.2.2.2.1, V.2.2.2.2.2.2)) 3 _ (cS cy (ad 2) (w_X3_changeDesk V.2.1 d what (nI i))) rfl).2
        have hD : va_D A (wB cy ad ((w_X4_isPlayable V.1), V.2.1, (w_X3_changeDesk V.2.1 d what (nI i)), V.2.2.2.1, V.2.2.2.2.1, V.2.2.2.2.2.1, V.2.2.2.2.2.2)) := vD_perm hD (pmB (bB cy ad ((w_X4_isPlayable V.1), V.2.1, V.2.1, V.2.2.2.1, V.2.2.2.2.1, V.2.2.2.2.2.1, V.2.2.2.2.2.2)) 3 _ (cS cy (ad 2) (w_X3_changeDesk V.2.1 d what (nI i))) rfl).2
        refine lv_aload_n hx hb dX5_bestSetting_54 rfl (lv_at hl 0 rfl) ?_
        refine va_get (D := D) (ci := 4) (v := .ref (ad 2 0 0)) (C := RX5) (T := TX5) (N := 6) hx hb hts inX5_bestSetting_X5 hown hK hP 0 rfl rfl 2 (by decide) (hts _ (List.mem_of_getElem? (i := 4) rfl)) (fun _ h9 => h9) rfl dX5_bestSetting_55 ?_
        refine lv_aload_n hx hb dX5_bestSetting_58 rfl (lv_at hl 0 rfl) ?_
        refine va_get (D := D) (ci := 4) (v := .ref (ad 0 1 0)) (C := RX5) (T := TX5) (N := 6) hx hb hts inX5_bestSetting_X5 hown hK hP 0 rfl rfl 0 (by decide) (hts _ (List.mem_of_getElem? (i := 1) rfl)) (fun _ h9 => h9) rfl dX5_bestSetting_59 ?_
        refine cl_n (va_runV (As := [.ref (ad 0 1 0)]) (rest := []) ⟨hx, hb, hml, hown, hts⟩ (c_X3_goAll l D cy (ad 2) (ad 0 1) (w_X3_changeDesk V.2.1 d what (nI i)) (w_X4_isPlayable V.1) H.size (show szok ((w_X3_changeDesk V.2.1 d what _).1 0 0) from by rw [cd_set]; exact hsz2) (stepok_of hlen hg c_1)) (cwV 1 hts gX5_bestSetting_X3_goAll rfl rfl rfl (by decide +kernel) ⟨Nat.le_of_ble_eq_true rfl, Nat.le_of_ble_eq_true rfl⟩) ⟨blU, va_recv hK hP (ci := 2) (q0 := 28) rfl rfl, preU hP hD (pmB2 (bB cy ad ((w_X4_isPlayable V.1), V.2.1, (w_X3_changeDesk V.2.1 d what (nI i)), V.2.2.2.1, V.2.2.2.2.1, V.2.2.2.2.2.1, V.2.2.2.2.2.2)) 3 1 _ _ (cS cy (ad 2) (w_X3_goAll (w_X3_changeDesk V.2.1 d what (nI i)) (w_X4_isPlayable V.1))) (cT cy (ad 0 1) (w_X4_isPlayable V.1)) rfl rfl).1 hK hE hS hA⟩ rfl rfl hl.1 rfl (lv_room (Nat.le_of_ble_eq_true rfl)) dX5_bestSetting_62 ⟨Nat.le_of_ble_eq_true rfl, Nat.le_of_ble_eq_true rfl⟩) hP hD (pmB2 (bB cy ad ((w_X4_isPlayable V.1), V.2.1, (w_X3_changeDesk V.2.1 d what (nI i)), V.2.2.2.1, V.2.2.2.2.1, V.2.2.2.2.2.1, V.2.2.2.2.2.2)) 3 1 _ _ (cS cy (ad 2) (w_X3_goAll (w_X3_changeDesk V.2.1 d what (nI i)) (w_X4_isPlayable V.1))) (cT cy (ad 0 1) (w_X4_isPlayable V.1)) rfl rfl).1 hS hA (fun H locs hP hD hS => ?_)
        have hP : va_P D vwCl (wB cy ad ((w_X4_isPlayable V.1), V.2.1, (w_X3_goAll (w_X3_changeDesk V.2.1 d what (nI i)) (w_X4_isPlayable V.1)), V.2.2.2.1, V.2.2.2.2.1, V.2.2.2.2.2.1, V.2.2.2.2.2.2)) H := vP_perm hP ((pmB2 (bB cy ad ((w_X4_isPlayable V.1), V.2.1, (w_X3_changeDesk V.2.1 d what (nI i)), V.2.2.2.1, V.2.2.2.2.1, V.2.2.2.2.2.1, V.2.2.2.2.2.2)) 3 1 _ _ (cS cy (ad 2) (w_X3_goAll (w_X3_changeDesk V.2.1 d what (nI i)) (w_X4_isPlayable V.1))) (cT cy (ad 0 1) (w_X4_isPlayable V.1)) rfl rfl).2.trans (pmB (bB cy ad ((w_X4_isPlayable V.1), V.2.1, (w_X3_goAll (w_X3_changeDesk V.2.1 d what (nI i)) (w_X4_isPlayable V.1)), V.2.2.2.1, V.2.2.2.2.1, V.2.2.2.2.2.1, V.2.2.2.2.2.2)) 3 _ (cS cy (ad 2) (w_X3_goAll (w_X3_changeDesk V.2.1 d what (nI i)) (w_X4_isPlayable V.1))) rfl).1.symm)
        have hD : va_D A (wB cy ad ((w_X4_isPlayable V.1), V.2.1, (w_X3_goAll (w_X3_changeDesk V.2.1 d what (nI i)) (w_X4_isPlayable V.1)), V.2.2.2.1, V.2.2.2.2.1, V.2.2.2.2.2.1, V.2.2.2.2.2.2)) := vD_perm hD ((pmB2 (bB cy ad ((w_X4_isPlayable V.1), V.2.1, (w_X3_changeDesk V.2.1 d what (nI i)), V.2.2.2.1, V.2.2.2.2.1, V.2.2.2.2.2.1, V.2.2.2.2.2.2)) 3 1 _ _ (cS cy (ad 2) (w_X3_goAll (w_X3_changeDesk V.2.1 d what (nI i)) (w_X4_isPlayable V.1))) (cT cy (ad 0 1) (w_X4_isPlayable V.1)) rfl rfl).2.trans (pmB (bB cy ad ((w_X4_isPlayable V.1), V.2.1, (w_X3_goAll (w_X3_changeDesk V.2.1 d what (nI i)) (w_X4_isPlayable V.1)), V.2.2.2.1, V.2.2.2.2.1, V.2.2.2.2.2.1, V.2.2.2.2.2.2)) 3 _ (cS cy (ad 2) (w_X3_goAll (w_X3_changeDesk V.2.1 d what (nI i)) (w_X4_isPlayable V.1))) rfl).1.symm)
        refine lv_iload hx hb dX5_bestSetting_65 (lv_at hl 5 rfl) ?_
        refine lv_if_eq (tgt := 82) hx hb dX5_bestSetting_67 (by decide) (fun c_6 => ?_) (fun c_6 => ?_)
        · refine lv_aload_n hx hb dX5_bestSetting_82 rfl (lv_at hl 0 rfl) ?_
          refine va_get (D := D) (ci := 4) (v := .ref (ad 2 0 0)) (C := RX5) (T := TX5) (N := 6) hx hb hts inX5_bestSetting_X5 hown hK hP 0 rfl rfl 2 (by decide) (hts _ (List.mem_of_getElem? (i := 4) rfl)) (fun _ h9 => h9) rfl dX5_bestSetting_83 ?_
          refine va_get (D := D) (ci := 2) (v := .int ((w_X3_goAll (w_X3_changeDesk V.2.1 d what (nI i)) (w_X4_isPlayable V.1)).1 7 0)) (C := RX3) (T := TX3) (N := 11) hx hb hts inX5_bestSetting_X3 hown hK hP 28 rfl rfl 8 (by decide) (hts _ (List.mem_of_getElem? (i := 6) rfl)) (fun _ h9 => h9) rfl dX5_bestSetting_86 ?_
          refine lv_istore (lv' := [(4, .int ((w_X3_goAll (w_X3_changeDesk V.2.1 d what (nI i)) (w_X4_isPlayable V.1)).1 7 0)), (0, .ref (ad 0 0 0)), (1, .int d), (2, .int what), (3, .int best), (5, .int (nI i))]) hx hb dX5_bestSetting_89 hl (by decide) rfl (fun ls hl => ?_)
          refine lv_iload hx hb dX5_bestSetting_91 (lv_at hl 5 rfl) ?_
          refine lv_istore_n (lv' := [(3, .int (nI i)), (4, .int ((w_X3_goAll (w_X3_changeDesk V.2.1 d what (nI i)) (w_X4_isPlayable V.1)).1 7 0)), (0, .ref (ad 0 0 0)), (1, .int d), (2, .int what), (5, .int (nI i))]) hx hb dX5_bestSetting_93 rfl hl (by decide) rfl (fun ls hl => ?_)
          refine lv_iinc (v := (nI (i + 1))) (lv' := [(5, .int (nI (i + 1))), (3, .int (nI i)), (4, .int ((w_X3_goAll (w_X3_changeDesk V.2.1 d what (nI i)) (w_X4_isPlayable V.1)).1 7 0)), (0, .ref (ad 0 0 0)), (1, .int d), (2, .int what)]) hx hb dX5_bestSetting_94 hl (k := 5) rfl (nI_1 i) (by decide) rfl (fun ls hl => ?_)
          refine lv_goto (tgt := 22) hx hb dX5_bestSetting_97 (by decide) ?_
          exact ih (i + 1) _ _ _ (by omega) ((if_pos c_6).symm.trans hq9) H locs hP hD hS ls (lv_sub hl [3, 4, 5, 1, 2, 0] rfl)
        · refine lv_aload_n hx hb dX5_bestSetting_70 rfl (lv_at hl 0 rfl) ?_
          refine va_get (D := D) (ci := 4) (v := .ref (ad 2 0 0)) (C := RX5) (T := TX5) (N := 6) hx hb hts inX5_bestSetting_X5 hown hK hP 0 rfl rfl 2 (by decide) (hts _ (List.mem_of_getElem? (i := 4) rfl)) (fun _ h9 => h9) rfl dX5_bestSetting_71 ?_
          refine va_get (D := D) (ci := 2) (v := .int ((w_X3_goAll (w_X3_changeDesk V.2.1 d what (nI i)) (w_X4_isPlayable V.1)).1 7 0)) (C := RX3) (T := TX3) (N := 11) hx hb hts inX5_bestSetting_X3 hown hK hP 28 rfl rfl 8 (by decide) (hts _ (List.mem_of_getElem? (i := 6) rfl)) (fun _ h9 => h9) rfl dX5_bestSetting_74 ?_
          refine lv_iload hx hb dX5_bestSetting_77 (lv_at hl 4 rfl) ?_
          refine lv_icmp_le (tgt := 94) hx hb dX5_bestSetting_79 (by decide) (fun c_7 => ?_) (fun c_7 => ?_)
          · refine lv_iinc (v := (nI (i + 1))) (lv' := [(5, .int (nI (i + 1))), (0, .ref (ad 0 0 0)), (1, .int d), (2, .int what), (3, .int best), (4, .int most)]) hx hb dX5_bestSetting_94 hl (k := 5) rfl (nI_1 i) (by decide) rfl (fun ls hl => ?_)
            refine lv_goto (tgt := 22) hx hb dX5_bestSetting_97 (by decide) ?_
            exact ih (i + 1) _ _ _ (by omega) ((if_pos c_7).symm.trans ((if_neg c_6).symm.trans hq9)) H locs hP hD hS ls (lv_sub hl [1, 2, 3, 4, 5, 0] rfl)
          · refine lv_aload_n hx hb dX5_bestSetting_82 rfl (lv_at hl 0 rfl) ?_
            refine va_get (D := D) (ci := 4) (v := .ref (ad 2 0 0)) (C := RX5) (T := TX5) (N := 6) hx hb hts inX5_bestSetting_X5 hown hK hP 0 rfl rfl 2 (by decide) (hts _ (List.mem_of_getElem? (i := 4) rfl)) (fun _ h9 => h9) rfl dX5_bestSetting_83 ?_
            refine va_get (D := D) (ci := 2) (v := .int ((w_X3_goAll (w_X3_changeDesk V.2.1 d what (nI i)) (w_X4_isPlayable V.1)).1 7 0)) (C := RX3) (T := TX3) (N := 11) hx hb hts inX5_bestSetting_X3 hown hK hP 28 rfl rfl 8 (by decide) (hts _ (List.mem_of_getElem? (i := 6) rfl)) (fun _ h9 => h9) rfl dX5_bestSetting_86 ?_
            refine lv_istore (lv' := [(4, .int ((w_X3_goAll (w_X3_changeDesk V.2.1 d what (nI i)) (w_X4_isPlayable V.1)).1 7 0)), (0, .ref (ad 0 0 0)), (1, .int d), (2, .int what), (3, .int best), (5, .int (nI i))]) hx hb dX5_bestSetting_89 hl (by decide) rfl (fun ls hl => ?_)
            refine lv_iload hx hb dX5_bestSetting_91 (lv_at hl 5 rfl) ?_
            refine lv_istore_n (lv' := [(3, .int (nI i)), (4, .int ((w_X3_goAll (w_X3_changeDesk V.2.1 d what (nI i)) (w_X4_isPlayable V.1)).1 7 0)), (0, .ref (ad 0 0 0)), (1, .int d), (2, .int what), (5, .int (nI i))]) hx hb dX5_bestSetting_93 rfl hl (by decide) rfl (fun ls hl => ?_)
            refine lv_iinc (v := (nI (i + 1))) (lv' := [(5, .int (nI (i + 1))), (3, .int (nI i)), (4, .int ((w_X3_goAll (w_X3_changeDesk V.2.1 d what (nI i)) (w_X4_isPlayable V.1)).1 7 0)), (0, .ref (ad 0 0 0)), (1, .int d), (2, .int what)]) hx hb dX5_bestSetting_94 hl (k := 5) rfl (nI_1 i) (by decide) rfl (fun ls hl => ?_)
            refine lv_goto (tgt := 22) hx hb dX5_bestSetting_97 (by decide) ?_
            exact ih (i + 1) _ _ _ (by omega) ((if_neg c_7).symm.trans ((if_neg c_6).symm.trans hq9)) H locs hP hD hS ls (lv_sub hl [3, 4, 5, 1, 2, 0] rfl)
    exact hloop _ 0 _ _ V.2.2.1 (Nat.zero_add _) rfl H locs hP hD hS ls (lv_sub hl [3, 4, 5, 2, 1, 0] rfl)
  · refine lv_ldc (v := (-99999)) hx hb hown (hts _ (List.mem_of_getElem? (i := 2) rfl)) dX5_bestSetting_10 ?_
    have hr9 : (-99999 : Int32) = (r_X5_bestSetting V d what) := by unfold r_X5_bestSetting; simp only [if_pos c_1, if_true, if_false]
    have hw9 : (w_X5_bestSetting V d what) = ((w_X4_isPlayable V.1), V.2.1, V.2.2.1, V.2.2.2.1, V.2.2.2.2.1, V.2.2.2.2.2.1, V.2.2.2.2.2.2) := by unfold w_X5_bestSetting; simp only [if_pos c_1, if_true, if_false]
    exact hret _ H locs _ ls hr9 (by rw [hw9]; exact hP) (by rw [hw9]; exact hD) hS dX5_bestSetting_12

def o_X5_bestMixing (V : BV) (d : Int32) : Int32 × Int32 := (if (o_X5_checkDesk d) = 0 then ((0 : Int32), (r_X5_bestSetting V d (0 : Int32))) else ((o_X5_checkDesk d), (0 : Int32)))
def w_X5_bestMixing (V : BV) (d : Int32) : BV := (if (o_X5_checkDesk d) = 0 then (w_X5_bestSetting V d (0 : Int32)) else V)
abbrev rX5_bestMixing : Room := { frames := 7, cells := 1, slots := 6, locals := 142 }
set_option maxHeartbeats 4000000 in
set_option maxRecDepth 100000 in
theorem c_X5_bestMixing (l : Launch) (hlt : l.stackTraces = false) (D : va_G) (cy : Nat → ClassId) (ad : AD) (V : BV) (d : Int32) (sz : Nat) (hsz2 : szok (V.2.1.1 0 0)) (hlen : ∃ n, n ≤ 80 ∧ V.1 3 0 = nI n) (hg : ∃ g, g < 26 ∧ V.1 6 0 = nI g) : CX l yX5_bestMixing wsX5_bestMixing rX5_bestMixing D cy [.ref (ad 0 0 0), .int d] (wB cy ad V) sz (o_X5_bestMixing V d) (wB cy ad (w_X5_bestMixing V d)) 1 6 := by
  refine stx_i (ty := .int) (cc := cX5_bestMixing) (maxL := 2) (by decide) rfl rfl (Nat.le_of_ble_eq_true rfl) ?_
  intro pp e s m below meth c A Q ls hx hb hts hown hml hlocks htab hsz hP hK hD hE hA hl hAe hQ hret hout
  subst hsz
  have hown : s.vm.findClass RX5 = some m.cls := hown
  have hl : lv_has ls 2 [(0, .ref (ad 0 0 0)), (1, .int d)] := hl
  obtain ⟨H, hH⟩ : ∃ H, H = s.heap := ⟨_, rfl⟩
  rw [← hH] at hP ⊢
  have hS : va_S A s.heap H [] := by rw [hH]; exact va_S.rf
  obtain ⟨locs, hlo⟩ : ∃ locs : List Loc, locs = [] := ⟨_, rfl⟩
  rw [← hlo] at hS ⊢
  refine lv_iload_n hx hb dX5_bestMixing_0 rfl (lv_at hl 1 rfl) ?_
  refine clx_n (vx_runS (As := [.int d]) (rest := []) ⟨hx, hb, hml, hown, hts⟩ (c_X5_checkDesk l hlt D cy d H.size) (va_cwS 1 hts gX5_bestMixing_X5_checkDesk rfl rfl rfl (by decide +kernel) ⟨Nat.le_of_ble_eq_true rfl, Nat.le_of_ble_eq_true rfl⟩) ⟨blU, preU hP hD (List.Perm.refl _) hK hE hS hA⟩ rfl rfl hl.1 rfl (lv_room (Nat.le_of_ble_eq_true rfl)) dX5_bestMixing_1 ⟨Nat.le_of_ble_eq_true rfl, Nat.le_of_ble_eq_true rfl⟩) hP hD (List.Perm.refl _) hS hA (fun c_1 q9 ce H locs hq hv hcl hP hD hS => ?_) (fun c_1 H locs hP hD hS => ?_)
  · have hP : va_P D vwCl (wB cy ad V) H := vP_perm hP (List.Perm.refl _)
    have hD : va_D A (wB cy ad V) := vD_perm hD (List.Perm.refl _)
    have ho9 : (o_X5_bestMixing V d).1 = (o_X5_checkDesk d) := by unfold o_X5_bestMixing; simp only [if_neg c_1, if_true, if_false]
    have hw9 : (w_X5_bestMixing V d) = V := by unfold w_X5_bestMixing; simp only [if_neg c_1, if_true, if_false]
    exact vx_widen (k := 1) (n := 6) (Nat.le_of_ble_eq_true rfl) (Nat.le_of_ble_eq_true rfl) (hout _ q9 ce H locs _ ls _ ho9 c_1 hq hv hcl (by rw [hw9]; exact hP) (by rw [hw9]; exact hD) hS)
  · have hP : va_P D vwCl (wB cy ad V) H := vP_perm hP (List.Perm.refl _)
    have hD : va_D A (wB cy ad V) := vD_perm hD (List.Perm.refl _)
    refine lv_aload_n hx hb dX5_bestMixing_4 rfl (lv_at hl 0 rfl) ?_
    refine lv_iload_n hx hb dX5_bestMixing_5 rfl (lv_at hl 1 rfl) ?_
    refine lv_iconst (v := 0) hx hb dX5_bestMixing_6 (by decide) ?_
    refine cl_i (va_runV (As := [.int d, .int (0 : Int32)]) (rest := []) ⟨hx, hb, hml, hown, hts⟩ (c_X5_bestSetting l D cy ad V d (0 : Int32) H.size (ckDesk_of c_1) (by first | exact Or.inl rfl | exact Or.inr rfl) hsz2 hlen hg) (cwV 2 hts gX5_bestMixing_X5_bestSetting rfl rfl rfl (by decide +kernel) ⟨Nat.le_of_ble_eq_true rfl, Nat.le_of_ble_eq_true rfl⟩) ⟨blU, va_recv hK hP (ci := 4) (q0 := 0) rfl rfl, preU hP hD (pmI _) hK hE hS hA⟩ rfl rfl hl.1 rfl (lv_room (Nat.le_of_ble_eq_true rfl)) dX5_bestMixing_7 ⟨Nat.le_of_ble_eq_true rfl, Nat.le_of_ble_eq_true rfl⟩) hP hD (pmI _) hS hA (fun H locs hP hD hS => ?_)
    have hP : va_P D vwCl (wB cy ad (w_X5_bestSetting V d (0 : Int32))) H := vP_perm hP (pmI _).symm
    have hD : va_D A (wB cy ad (w_X5_bestSetting V d (0 : Int32))) := vD_perm hD (pmI _).symm
    have hr9 : (o_X5_bestMixing V d) = ((0 : Int32), (r_X5_bestSetting V d (0 : Int32))) := by unfold o_X5_bestMixing; simp only [if_pos c_1, if_true, if_false]
    have hw9 : (w_X5_bestMixing V d) = (w_X5_bestSetting V d (0 : Int32)) := by unfold w_X5_bestMixing; simp only [if_pos c_1, if_true, if_false]
    exact hret _ H locs _ ls hr9 (by rw [hw9]; exact hP) (by rw [hw9]; exact hD) hS dX5_bestMixing_10

def o_X5_bestLength (V : BV) (d : Int32) : Int32 × Int32 := (if (o_X5_checkDesk d) = 0 then ((0 : Int32), (r_X5_bestSetting V d (1 : Int32))) else ((o_X5_checkDesk d), (0 : Int32)))
def w_X5_bestLength (V : BV) (d : Int32) : BV := (if (o_X5_checkDesk d) = 0 then (w_X5_bestSetting V d (1 : Int32)) else V)
abbrev rX5_bestLength : Room := { frames := 7, cells := 1, slots := 6, locals := 142 }
set_option maxHeartbeats 4000000 in
set_option maxRecDepth 100000 in
theorem c_X5_bestLength (l : Launch) (hlt : l.stackTraces = false) (D : va_G) (cy : Nat → ClassId) (ad : AD) (V : BV) (d : Int32) (sz : Nat) (hsz2 : szok (V.2.1.1 0 0)) (hlen : ∃ n, n ≤ 80 ∧ V.1 3 0 = nI n) (hg : ∃ g, g < 26 ∧ V.1 6 0 = nI g) : CX l yX5_bestLength wsX5_bestLength rX5_bestLength D cy [.ref (ad 0 0 0), .int d] (wB cy ad V) sz (o_X5_bestLength V d) (wB cy ad (w_X5_bestLength V d)) 1 6 := by
  refine stx_i (ty := .int) (cc := cX5_bestLength) (maxL := 2) (by decide) rfl rfl (Nat.le_of_ble_eq_true rfl) ?_
  intro pp e s m below meth c A Q ls hx hb hts hown hml hlocks htab hsz hP hK hD hE hA hl hAe hQ hret hout
  subst hsz
  have hown : s.vm.findClass RX5 = some m.cls := hown
  have hl : lv_has ls 2 [(0, .ref (ad 0 0 0)), (1, .int d)] := hl
  obtain ⟨H, hH⟩ : ∃ H, H = s.heap := ⟨_, rfl⟩
  rw [← hH] at hP ⊢
  have hS : va_S A s.heap H [] := by rw [hH]; exact va_S.rf
  obtain ⟨locs, hlo⟩ : ∃ locs : List Loc, locs = [] := ⟨_, rfl⟩
  rw [← hlo] at hS ⊢
  refine lv_iload_n hx hb dX5_bestLength_0 rfl (lv_at hl 1 rfl) ?_
  refine clx_n (vx_runS (As := [.int d]) (rest := []) ⟨hx, hb, hml, hown, hts⟩ (c_X5_checkDesk l hlt D cy d H.size) (va_cwS 1 hts gX5_bestLength_X5_checkDesk rfl rfl rfl (by decide +kernel) ⟨Nat.le_of_ble_eq_true rfl, Nat.le_of_ble_eq_true rfl⟩) ⟨blU, preU hP hD (List.Perm.refl _) hK hE hS hA⟩ rfl rfl hl.1 rfl (lv_room (Nat.le_of_ble_eq_true rfl)) dX5_bestLength_1 ⟨Nat.le_of_ble_eq_true rfl, Nat.le_of_ble_eq_true rfl⟩) hP hD (List.Perm.refl _) hS hA (fun c_1 q9 ce H locs hq hv hcl hP hD hS => ?_) (fun c_1 H locs hP hD hS => ?_)
  · have hP : va_P D vwCl (wB cy ad V) H := vP_perm hP (List.Perm.refl _)
    have hD : va_D A (wB cy ad V) := vD_perm hD (List.Perm.refl _)
    have ho9 : (o_X5_bestLength V d).1 = (o_X5_checkDesk d) := by unfold o_X5_bestLength; simp only [if_neg c_1, if_true, if_false]
    have hw9 : (w_X5_bestLength V d) = V := by unfold w_X5_bestLength; simp only [if_neg c_1, if_true, if_false]
    exact vx_widen (k := 1) (n := 6) (Nat.le_of_ble_eq_true rfl) (Nat.le_of_ble_eq_true rfl) (hout _ q9 ce H locs _ ls _ ho9 c_1 hq hv hcl (by rw [hw9]; exact hP) (by rw [hw9]; exact hD) hS)
  · have hP : va_P D vwCl (wB cy ad V) H := vP_perm hP (List.Perm.refl _)
    have hD : va_D A (wB cy ad V) := vD_perm hD (List.Perm.refl _)
    refine lv_aload_n hx hb dX5_bestLength_4 rfl (lv_at hl 0 rfl) ?_
    refine lv_iload_n hx hb dX5_bestLength_5 rfl (lv_at hl 1 rfl) ?_
    refine lv_iconst (v := 1) hx hb dX5_bestLength_6 (by decide) ?_
    refine cl_i (va_runV (As := [.int d, .int (1 : Int32)]) (rest := []) ⟨hx, hb, hml, hown, hts⟩ (c_X5_bestSetting l D cy ad V d (1 : Int32) H.size (ckDesk_of c_1) (by first | exact Or.inl rfl | exact Or.inr rfl) hsz2 hlen hg) (cwV 2 hts gX5_bestLength_X5_bestSetting rfl rfl rfl (by decide +kernel) ⟨Nat.le_of_ble_eq_true rfl, Nat.le_of_ble_eq_true rfl⟩) ⟨blU, va_recv hK hP (ci := 4) (q0 := 0) rfl rfl, preU hP hD (pmI _) hK hE hS hA⟩ rfl rfl hl.1 rfl (lv_room (Nat.le_of_ble_eq_true rfl)) dX5_bestLength_7 ⟨Nat.le_of_ble_eq_true rfl, Nat.le_of_ble_eq_true rfl⟩) hP hD (pmI _) hS hA (fun H locs hP hD hS => ?_)
    have hP : va_P D vwCl (wB cy ad (w_X5_bestSetting V d (1 : Int32))) H := vP_perm hP (pmI _).symm
    have hD : va_D A (wB cy ad (w_X5_bestSetting V d (1 : Int32))) := vD_perm hD (pmI _).symm
    have hr9 : (o_X5_bestLength V d) = ((0 : Int32), (r_X5_bestSetting V d (1 : Int32))) := by unfold o_X5_bestLength; simp only [if_pos c_1, if_true, if_false]
    have hw9 : (w_X5_bestLength V d) = (w_X5_bestSetting V d (1 : Int32)) := by unfold w_X5_bestLength; simp only [if_pos c_1, if_true, if_false]
    exact hret _ H locs _ ls hr9 (by rw [hw9]; exact hP) (by rw [hw9]; exact hD) hS dX5_bestLength_10

/-- the other way again and again, until the guess is another -/
def hdN (pl g : Int32) : Nat → Nat → SV → Int32 × SV
  | 0, _, t => (99, t)
  | n + 1, i, t => if r_X3_guessFor (w_X3_go t pl (if g = 0 then (1 : Int32) else (0 : Int32))) pl = g then hdN pl g n (i + 1) (w_X3_go t pl (if g = 0 then (1 : Int32) else (0 : Int32))) else (nI i, w_X3_go t pl (if g = 0 then (1 : Int32) else (0 : Int32)))
def hdR (v : SV) (pl : Int32) : Int32 × SV := hdN pl (r_X3_guessFor v pl) 98 1 v
def o_X5_holds (V : BV) (pl : Int32) : Int32 × Int32 := if (o_X5_checkPlace pl) = 0 then ((0 : Int32), (hdR V.2.1 pl).1) else ((o_X5_checkPlace pl), (0 : Int32))
def w_X5_holds (V : BV) (pl : Int32) : BV := if (o_X5_checkPlace pl) = 0 then (V.1, V.2.1, (hdR V.2.1 pl).2, V.2.2.2) else V

abbrev rX5_holds : Room := { frames := 7, cells := 1, slots := 6, locals := 110 }
theorem inX5_holds_X5 : ∀ w ∈ u_ws RX5 TX5 6, w ∈ wsX5_holds := by decide +kernel
set_option maxHeartbeats 4000000 in
set_option maxRecDepth 100000 in
theorem c_X5_holds (l : Launch) (hlt : l.stackTraces = false) (D : va_G) (cy : Nat → ClassId) (ad : AD) (V : BV) (pl : Int32) (sz : Nat) (hsz2 : szok (V.2.1.1 0 0)) : CX l yX5_holds wsX5_holds rX5_holds D cy [.ref (ad 0 0 0), .int pl] (wB cy ad V) sz (o_X5_holds V pl) (wB cy ad (w_X5_holds V pl)) 1 6 := by
  refine stx_i (ty := .int) (cc := cX5_holds) (maxL := 4) (by decide) rfl rfl (Nat.le_of_ble_eq_true rfl) ?_
  intro pp e s m below meth c A Q ls hx hb hts hown hml hlocks htab hsz hP hK hD hE hA hl hAe hQ hret hout
  subst hsz
  have hown : s.vm.findClass RX5 = some m.cls := hown
  have hl : lv_has ls 4 [(0, .ref (ad 0 0 0)), (1, .int pl)] := hl
  obtain ⟨H, hH⟩ : ∃ H, H = s.heap := ⟨_, rfl⟩
  rw [← hH] at hP ⊢
  have hS : va_S A s.heap H [] := by rw [hH]; exact va_S.rf
  obtain ⟨locs, hlo⟩ : ∃ locs : List Loc, locs = [] := ⟨_, rfl⟩
  rw [← hlo] at hS ⊢
  refine lv_iload_n hx hb dX5_holds_0 rfl (lv_at hl 1 rfl) ?_
  refine clx_n (vx_runS (As := [.int pl]) (rest := []) ⟨hx, hb, hml, hown, hts⟩ (c_X5_checkPlace l hlt D cy pl H.size) (va_cwS 1 hts gX5_holds_X5_checkPlace rfl rfl rfl (by decide +kernel) ⟨Nat.le_of_ble_eq_true rfl, Nat.le_of_ble_eq_true rfl⟩) ⟨blU, preU hP hD (List.Perm.refl _) hK hE hS hA⟩ rfl rfl hl.1 rfl (lv_room (Nat.le_of_ble_eq_true rfl)) dX5_holds_1 ⟨Nat.le_of_ble_eq_true rfl, Nat.le_of_ble_eq_true rfl⟩) hP hD (List.Perm.refl _) hS hA (fun c_1 q9 ce H locs hq hv hcl hP hD hS => ?_) (fun c_1 H locs hP hD hS => ?_)
  · have hP : va_P D vwCl (wB cy ad V) H := vP_perm hP (List.Perm.refl _)
    have hD : va_D A (wB cy ad V) := vD_perm hD (List.Perm.refl _)
    have ho9 : (o_X5_holds V pl).1 = (o_X5_checkPlace pl) := by unfold o_X5_holds; simp only [if_neg c_1, if_true, if_false]
    have hw9 : (w_X5_holds V pl) = V := by unfold w_X5_holds; simp only [if_neg c_1, if_true, if_false]
    exact vx_widen (k := 1) (n := 6) (Nat.le_of_ble_eq_true rfl) (Nat.le_of_ble_eq_true rfl) (hout _ q9 ce H locs _ ls _ ho9 c_1 hq hv hcl (by rw [hw9]; exact hP) (by rw [hw9]; exact hD) hS)
  · have hP : va_P D vwCl (wB cy ad V) H := vP_perm hP (List.Perm.refl _)
    have hD : va_D A (wB cy ad V) := vD_perm hD (List.Perm.refl _)
    refine lv_aload_n hx hb dX5_holds_4 rfl (lv_at hl 0 rfl) ?_
    refine va_get (D := D) (ci := 4) (v := .ref (ad 2 0 0)) (C := RX5) (T := TX5) (N := 6) hx hb hts inX5_holds_X5 hown hK hP 0 rfl rfl 2 (by decide) (hts _ (List.mem_of_getElem? (i := 1) rfl)) (fun _ h9 => h9) rfl dX5_holds_5 ?_
    refine lv_aload_n hx hb dX5_holds_8 rfl (lv_at hl 0 rfl) ?_
    refine va_get (D := D) (ci := 4) (v := .ref (ad 1 0 0)) (C := RX5) (T := TX5) (N := 6) hx hb hts inX5_holds_X5 hown hK hP 0 rfl rfl 1 (by decide) (hts _ (List.mem_of_getElem? (i := 2) rfl)) (fun _ h9 => h9) rfl dX5_holds_9 ?_
    refine cl_n (va_runV (As := [.ref (ad 1 0 0)]) (rest := []) ⟨hx, hb, hml, hown, hts⟩ (c_X3_copyFrom l D cy (ad 2) (ad 1) V.2.2.1 V.2.1 H.size) (cwV 1 hts gX5_holds_X3_copyFrom rfl rfl rfl (by decide +kernel) ⟨Nat.le_of_ble_eq_true rfl, Nat.le_of_ble_eq_true rfl⟩) ⟨blU, va_recv hK hP (ci := 2) (q0 := 28) rfl rfl, preU hP hD (pmB2 (bB cy ad V) 3 2 _ _ (cS cy (ad 2) V.2.1) (cS cy (ad 1) V.2.1) rfl rfl).1 hK hE hS hA⟩ rfl rfl hl.1 rfl (lv_room (Nat.le_of_ble_eq_true rfl)) dX5_holds_12 ⟨Nat.le_of_ble_eq_true rfl, Nat.le_of_ble_eq_true rfl⟩) hP hD (pmB2 (bB cy ad V) 3 2 _ _ (cS cy (ad 2) V.2.1) (cS cy (ad 1) V.2.1) rfl rfl).1 hS hA (fun H locs hP hD hS => ?_)
    have hP : va_P D vwCl (wB cy ad (V.1, V.2.1, V.2.1, V.2.2.2.1, V.2.2.2.2.1, V.2.2.2.2.2.1, V.2.2.2.2.2.2)) H := vP_perm hP ((pmB2 (bB cy ad V) 3 2 _ _ (cS cy (ad 2) V.2.1) (cS cy (ad 1) V.2.1) rfl rfl).2.trans (pmB (bB cy ad (V.1, V.2.1, V.2.1, V.2.2.2.1, V.2.2.2.2.1, V.2.2.2.2.2.1, V.2.2.2.2.2.2)) 3 _ (cS cy (ad 2) V.2.1) rfl).1.symm)
    have hD : va_D A (wB cy ad (V.1, V.2.1, V.2.1, V.2.2.2.1, V.2.2.2.2.1, V.2.2.2.2.2.1, V.2.2.2.2.2.2)) := vD_perm hD ((pmB2 (bB cy ad V) 3 2 _ _ (cS cy (ad 2) V.2.1) (cS cy (ad 1) V.2.1) rfl rfl).2.trans (pmB (bB cy ad (V.1, V.2.1, V.2.1, V.2.2.2.1, V.2.2.2.2.1, V.2.2.2.2.2.1, V.2.2.2.2.2.2)) 3 _ (cS cy (ad 2) V.2.1) rfl).1.symm)
    refine lv_aload_n hx hb dX5_holds_15 rfl (lv_at hl 0 rfl) ?_
    refine va_get (D := D) (ci := 4) (v := .ref (ad 2 0 0)) (C := RX5) (T := TX5) (N := 6) hx hb hts inX5_holds_X5 hown hK hP 0 rfl rfl 2 (by decide) (hts _ (List.mem_of_getElem? (i := 1) rfl)) (fun _ h9 => h9) rfl dX5_holds_16 ?_
    refine lv_iload_n hx hb dX5_holds_19 rfl (lv_at hl 1 rfl) ?_
    refine cl_i (va_runV (As := [.int pl]) (rest := []) ⟨hx, hb, hml, hown, hts⟩ (c_X3_guessFor l D cy (ad 2) V.2.1 pl H.size (ckPlace_of c_1) hsz2) (cwV 1 hts gX5_holds_X3_guessFor rfl rfl rfl (by decide +kernel) ⟨Nat.le_of_ble_eq_true rfl, Nat.le_of_ble_eq_true rfl⟩) ⟨blU, va_recv hK hP (ci := 2) (q0 := 28) rfl rfl, preU hP hD (pmB (bB cy ad (V.1, V.2.1, V.2.1, V.2.2.2.1, V.2.2.2.2.1, V.2.2.2.2.2.1, V.2.2.2.2.2.2)) 3 _ (cS cy (ad 2) V.2.1) rfl).1 hK hE hS hA⟩ rfl rfl hl.1 rfl (lv_room (Nat.le_of_ble_eq_true rfl)) dX5_holds_20 ⟨Nat.le_of_ble_eq_true rfl, Nat.le_of_ble_eq_true rfl⟩) hP hD (pmB (bB cy ad (V.1, V.2.1, V.2.1, V.2.2.2.1, V.2.2.2.2.1, V.2.2.2.2.2.1, V.2.2.2.2.2.2)) 3 _ (cS cy (ad 2) V.2.1) rfl).1 hS hA (fun H locs hP hD hS => ?_)
    have hP : va_P D vwCl (wB cy ad (V.1, V.2.1, V.2.1, V.2.2.2.1, V.2.2.2.2.1, V.2.2.2.2.2.1, V.2.2.2.2.2.2)) H := vP_perm hP (pmB (bB cy ad (V.1, V.2.1, V.2.1, V.2.2.2.1, V.2.2.2.2.1, V.2.2.2.2.2.1, V.2.2.2.2.2.2)) 3 _ (cS cy (ad 2) V.2.1) rfl).2
    have hD : va_D A (wB cy ad (V.1, V.2.1, V.2.1, V.2.2.2.1, V.2.2.2.2.1, V.2.2.2.2.2.1, V.2.2.2.2.2.2)) := vD_perm hD (pmB (bB cy ad (V.1, V.2.1, V.2.1, V.2.2.2.1, V.2.2.2.2.1, V.2.2.2.2.2.1, V.2.2.2.2.2.2)) 3 _ (cS cy (ad 2) V.2.1) rfl).2
    refine lv_istore_n (lv' := [(2, .int (r_X3_guessFor V.2.1 pl)), (0, .ref (ad 0 0 0)), (1, .int pl)]) hx hb dX5_holds_23 rfl hl (by decide) rfl (fun ls hl => ?_)
    refine lv_iconst (v := 1) hx hb dX5_holds_24 (by decide) ?_
    refine lv_istore_n (lv' := [(3, .int (1 : Int32)), (2, .int (r_X3_guessFor V.2.1 pl)), (0, .ref (ad 0 0 0)), (1, .int pl)]) hx hb dX5_holds_25 rfl hl (by decide) rfl (fun ls hl => ?_)
    have hloop : ∀ (k i : Nat) (t : SV), i + k = 99 → t.1 0 = V.2.1.1 0 → hdN pl (r_X3_guessFor V.2.1 pl) k i t = hdR V.2.1 pl → ∀ (H : Heap) (locs : List Loc), va_P D vwCl (wB cy ad (V.1, V.2.1, t, V.2.2.2.1, V.2.2.2.2.1, V.2.2.2.2.2.1, V.2.2.2.2.2.2)) H → va_D A (wB cy ad (V.1, V.2.1, t, V.2.2.2.1, V.2.2.2.2.1, V.2.2.2.2.2.1, V.2.2.2.2.2.2)) → va_S A s.heap H locs → ∀ ls : Array Slot, lv_has ls 4 [(0, .ref (ad 0 0 0)), (1, .int pl), (2, .int (r_X3_guessFor V.2.1 pl)), (3, .int (nI i))] → W pp l e rX5_holds s m ([.ref (ad 0 0 0), .int pl] : List Value).toArray below meth c H locs 1 6 Q (F0 m 26 ls []) := by
      intro k
      induction k with
      | zero =>
        intro i t hik ht hq9 H locs hP hD hS ls hl
        refine lv_iload_n hx hb dX5_holds_26 rfl (lv_at hl 3 rfl) ?_
        refine lv_bipush (v := 98) hx hb dX5_holds_27 (by decide) ?_
        refine lv_icmp_gt (tgt := 70) hx hb dX5_holds_29 (by decide) (fun c_2 => ?_) (fun c_2 => absurd (nI_lt (a := 98) (b := i) (by omega) (by omega)) c_2)
        refine lv_bipush (v := 99) hx hb dX5_holds_70 (by decide) ?_
        have hq7 : ((99 : Int32), t) = hdR V.2.1 pl := hq9
        have hr9 : o_X5_holds V pl = ((0 : Int32), (99 : Int32)) := by unfold o_X5_holds; rw [if_pos c_1, ← hq7]
        have hw9 : w_X5_holds V pl = (V.1, V.2.1, t, V.2.2.2.1, V.2.2.2.2.1, V.2.2.2.2.2.1, V.2.2.2.2.2.2) := by unfold w_X5_holds; rw [if_pos c_1, ← hq7]
        exact hret _ H locs _ ls hr9 (by rw [hw9]; exact hP) (by rw [hw9]; exact hD) hS dX5_holds_72
      | succ k ih =>
        intro i t hik ht hq9 H locs hP hD hS ls hl
        refine lv_iload_n hx hb dX5_holds_26 rfl (lv_at hl 3 rfl) ?_
        refine lv_bipush (v := 98) hx hb dX5_holds_27 (by decide) ?_
        refine lv_icmp_gt (tgt := 70) hx hb dX5_holds_29 (by decide) (fun c_3 => absurd c_3 (nI_nlt (a := 98) (b := i) (by omega) (by decide))) (fun c_3 => ?_)
        refine lv_aload_n hx hb dX5_holds_32 rfl (lv_at hl 0 rfl) ?_
        refine va_get (D := D) (ci := 4) (v := .ref (ad 2 0 0)) (C := RX5) (T := TX5) (N := 6) hx hb hts inX5_holds_X5 hown hK hP 0 rfl rfl 2 (by decide) (hts _ (List.mem_of_getElem? (i := 1) rfl)) (fun _ h9 => h9) rfl dX5_holds_33 ?_
        refine lv_iload_n hx hb dX5_holds_36 rfl (lv_at hl 1 rfl) ?_
        refine lv_iload_n hx hb dX5_holds_37 rfl (lv_at hl 2 rfl) ?_
        have J46_5 : ∀ (z_5 : Int32) (hz_5 : z_5 = (if (r_X3_guessFor V.2.1 pl) = 0 then (1 : Int32) else (0 : Int32))) (H : Heap) (locs : List Loc), va_P D vwCl (wB cy ad (V.1, V.2.1, t, V.2.2.2.1, V.2.2.2.2.1, V.2.2.2.2.2.1, V.2.2.2.2.2.2)) H → va_D A (wB cy ad (V.1, V.2.1, t, V.2.2.2.1, V.2.2.2.2.1, V.2.2.2.2.2.1, V.2.2.2.2.2.2)) → va_S A s.heap H locs → ∀ ls : Array Slot, lv_has ls 4 [(0, .ref (ad 0 0 0)), (1, .int pl), (2, .int (r_X3_guessFor V.2.1 pl)), (3, .int (nI i))] → W pp l e rX5_holds s m ([.ref (ad 0 0 0), .int pl] : List Value).toArray below meth c H locs 1 6 Q (F0 m 46 ls [.int z_5, .int pl, .ref (ad 2 0 0)]) := by
          intro z_5 hz_5 H locs hP hD hS ls hl
          subst hz_5
          refine cl_i (va_runV (As := [.int pl, .int (if (r_X3_guessFor V.2.1 pl) = 0 then (1 : Int32) else (0 : Int32))]) (rest := []) ⟨hx, hb, hml, hown, hts⟩ (c_X3_go l D cy (ad 2) t pl (if (r_X3_guessFor V.2.1 pl) = 0 then (1 : Int32) else (0 : Int32)) H.size (ckPlace_of c_1) (show szok (t.1 0 0) from by rw [ht]; exact hsz2)) (cwV 2 hts gX5_holds_X3_go rfl rfl rfl (by decide +kernel) ⟨Nat.le_of_ble_eq_true rfl, Nat.le_of_ble_eq_true rfl⟩) ⟨blU, va_recv hK hP (ci := 2) (q0 := 28) rfl rfl, preU hP hD (pmB (bB cy ad (V.1, V.2.1, t, V.2.2.2.1, V.2.2.2.2.1, V.2.2.2.2.2.1, V.2.2.2.2.2.2)) 3 _ (cS cy (ad 2) (w_X3_go t pl (if (r_X3_guessFor V.2.1 pl) = 0 then (1 : Int32) else (0 : Int32)))) rfl).1 hK hE hS hA⟩ rfl rfl hl.1 rfl (lv_room (Nat.le_of_ble_eq_true rfl)) dX5_holds_46 ⟨Nat.le_of_ble_eq_true rfl, Nat.le_of_ble_eq_true rfl⟩) hP hD (pmB (bB cy ad (V.1, V.2.1, t, V.2.2.2.1, V.2.2.2.2.1, V.2.2.2.2.2.1, V.2.2.2.2.2.2)) 3 _ (cS cy (ad 2) (w_X3_go t pl (if (r_X3_guessFor V.2.1 pl) = 0 then (1 : Int32) else (0 : Int32)))) rfl).1 hS hA (fun H locs hP hD hS => ?_)
          have hP : va_P D vwCl (wB cy ad (V.1, V.2.1, (w_X3_go t pl (if (r_X3_guessFor V.2.1 pl) = 0 then (1 : Int32) else (0 : Int32))), V.2.2.2.1, V.2.2.2.2.1, V.2.2.2.2.2.1, V.2.2.2.2.2.2)) H := vP_perm hP (pmB (bB cy ad (V.1, V.2.1, t, V.2.2.2.1, V.2.2.2.2.1, V.2.2.2.2.2.1, V.2.2.2.2.2.2)) 3 _ (cS cy (ad 2) (w_X3_go t pl (if (r_X3_guessFor V.2.1 pl) = 0 then (1 : Int32) else (0 : Int32)))) rfl).2
          have hD : va_D A (wB cy ad (V.1, V.2.1, (w_X3_go t pl (if (r_X3_guessFor V.2.1 pl) = 0 then (1 : Int32) else (0 : Int32))), V.2.2.2.1, V.2.2.2.2.1, V.2.2.2.2.2.1, V.2.2.2.2.2.2)) := vD_perm hD (pmB (bB cy ad (V.1, V.2.1, t, V.2.2.2.1, V.2.2.2.2.1, V.2.2.2.2.2.1, V.2.2.2.2.2.2)) 3 _ (cS cy (ad 2) (w_X3_go t pl (if (r_X3_guessFor V.2.1 pl) = 0 then (1 : Int32) else (0 : Int32)))) rfl).2
          refine lv_pop hx hb dX5_holds_49 rfl ?_
          refine lv_aload_n hx hb dX5_holds_50 rfl (lv_at hl 0 rfl) ?_
          refine va_get (D := D) (ci := 4) (v := .ref (ad 2 0 0)) (C := RX5) (T := TX5) (N := 6) hx hb hts inX5_holds_X5 hown hK hP 0 rfl rfl 2 (by decide) (hts _ (List.mem_of_getElem? (i := 1) rfl)) (fun _ h9 => h9) rfl dX5_holds_51 ?_
          refine lv_iload_n hx hb dX5_holds_54 rfl (lv_at hl 1 rfl) ?_
          refine cl_i (va_runV (As := [.int pl]) (rest := []) ⟨hx, hb, hml, hown, hts⟩ (c_X3_guessFor l D cy (ad 2) (w_X3_go t pl (if (r_X3_guessFor V.2.1 pl) = 0 then (1 : Int32) else (0 : Int32))) pl H.size (ckPlace_of c_1) (show szok ((w_X3_go t _ _).1 0 0) from by rw [go_set, ht]; exact hsz2)) (cwV 1 hts gX5_holds_X3_guessFor rfl rfl rfl (by decide +kernel) ⟨Nat.le_of_ble_eq_true rfl, Nat.le_of_ble_eq_true rfl⟩) ⟨blU, va_recv hK hP (ci := 2) (q0 := 28) rfl rfl, preU hP hD (pmB (bB cy ad (V.1, V.2.1, (w_X3_go t pl (if (r_X3_guessFor V.2.1 pl) = 0 then (1 : Int32) else (0 : Int32))), V.2.2.2.1, V.2.2.2.2.1, V.2.2.2.2.2.1, V.2.2.2.2.2.2)) 3 _ (cS cy (ad 2) (w_X3_go t pl (if (r_X3_guessFor V.2.1 pl) = 0 then (1 : Int32) else (0 : Int32)))) rfl).1 hK hE hS hA⟩ rfl rfl hl.1 rfl (lv_room (Nat.le_of_ble_eq_true rfl)) dX5_holds_55 ⟨Nat.le_of_ble_eq_true rfl, Nat.le_of_ble_eq_true rfl⟩) hP hD (pmB (bB cy ad (V.1, V.2.1, (w_X3_go t pl (if (r_X3_guessFor V.2.1 pl) = 0 then (1 : Int32) else (0 : Int32))), V.2.2.2.1, V.2.2.2.2.1, V.2.2.2.2.2.1, V.2.2.2.2.2.2)) 3 _ (cS cy (ad 2) (w_X3_go t pl (if (r_X3_guessFor V.2.1 pl) = 0 then (1 : Int32) else (0 : Int32)))) rfl).1 hS hA (fun H locs hP hD hS => ?_)
          have hP : va_P D vwCl (wB cy ad (V.1, V.2.1, (w_X3_go t pl (if (r_X3_guessFor V.2.1 pl) = 0 then (1 : Int32) else (0 : Int32))), V.2.2.2.1, V.2.2.2.2.1, V.2.2.2.2.2.1, V.2.2.2.2.2.2)) H := vP_perm hP (pmB (bB cy ad (V.1, V.2.1, (w_X3_go t pl (if (r_X3_guessFor V.2.1 pl) = 0 then (1 : Int32) else (0 : Int32))), V.2.2.2.1, V.2.2.2.2.1, V.2.2.2.2.2.1, V.2.2.2.2.2.2)) 3 _ (cS cy (ad 2) (w_X3_go t pl (if (r_X3_guessFor V.2.1 pl) = 0 then (1 : Int32) else (0 : Int32)))) rfl).2
          have hD : va_D A (wB cy ad (V.1, V.2.1, (w_X3_go t pl (if (r_X3_guessFor V.2.1 pl) = 0 then (1 : Int32) else (0 : Int32))), V.2.2.2.1, V.2.2.2.2.1, V.2.2.2.2.2.1, V.2.2.2.2.2.2)) := vD_perm hD (pmB (bB cy ad (V.1, V.2.1, (w_X3_go t pl (if (r_X3_guessFor V.2.1 pl) = 0 then (1 : Int32) else (0 : Int32))), V.2.2.2.1, V.2.2.2.2.1, V.2.2.2.2.2.1, V.2.2.2.2.2.2)) 3 _ (cS cy (ad 2) (w_X3_go t pl (if (r_X3_guessFor V.2.1 pl) = 0 then (1 : Int32) else (0 : Int32)))) rfl).2
          refine lv_iload_n hx hb dX5_holds_58 rfl (lv_at hl 2 rfl) ?_
          refine lv_icmp_eq (tgt := 64) hx hb dX5_holds_59 (by decide) (fun c_7 => ?_) (fun c_7 => ?_)
          · refine lv_iinc (v := (nI (i + 1))) (lv' := [(3, .int (nI (i + 1))), (0, .ref (ad 0 0 0)), (1, .int pl), (2, .int (r_X3_guessFor V.2.1 pl))]) hx hb dX5_holds_64 hl (k := 3) rfl (nI_1 i) (by decide) rfl (fun ls hl => ?_)
            refine lv_goto (tgt := 26) hx hb dX5_holds_67 (by decide) ?_
            exact ih (i + 1) _ (by omega) (by rw [go_set]; exact ht) ((if_pos c_7).symm.trans hq9) H locs hP hD hS ls (lv_sub hl [1, 2, 3, 0] rfl)
          · refine lv_iload_n hx hb dX5_holds_62 rfl (lv_at hl 3 rfl) ?_
            have hq7 : ((nI i), (w_X3_go t pl (if (r_X3_guessFor V.2.1 pl) = 0 then (1 : Int32) else (0 : Int32)))) = hdR V.2.1 pl := ((if_neg c_7).symm.trans hq9)
            have hr9 : o_X5_holds V pl = ((0 : Int32), (nI i)) := by unfold o_X5_holds; rw [if_pos c_1, ← hq7]
            have hw9 : w_X5_holds V pl = (V.1, V.2.1, (w_X3_go t pl (if (r_X3_guessFor V.2.1 pl) = 0 then (1 : Int32) else (0 : Int32))), V.2.2.2.1, V.2.2.2.2.1, V.2.2.2.2.2.1, V.2.2.2.2.2.2) := by unfold w_X5_holds; rw [if_pos c_1, ← hq7]
            exact hret _ H locs _ ls hr9 (by rw [hw9]; exact hP) (by rw [hw9]; exact hD) hS dX5_holds_63
        refine lv_if_ne (tgt := 45) hx hb dX5_holds_38 (by decide) (fun c_4 => ?_) (fun c_4 => ?_)
        · refine lv_iconst (v := 0) hx hb dX5_holds_45 (by decide) ?_
          exact J46_5 (0 : Int32) (by simp only [if_neg c_4, if_true, if_false]) H locs hP hD hS ls (lv_sub hl [0, 1, 2, 3] rfl)
        · refine lv_iconst (v := 1) hx hb dX5_holds_41 (by decide) ?_
          refine lv_goto (tgt := 46) hx hb dX5_holds_42 (by decide) ?_
          exact J46_5 (1 : Int32) (by simp only [if_pos c_4, if_true, if_false]) H locs hP hD hS ls (lv_sub hl [0, 1, 2, 3] rfl)
    exact hloop 98 1 V.2.1 rfl rfl rfl H locs hP hD hS ls (lv_sub hl [2, 3, 1, 0] rfl)

/-- the place with most wrong guesses, from p on -/
def wsN (v : SV) : Nat → Nat → Int32 → Int32 → Int32
  | 0, _, found, _ => found
  | n + 1, i, found, most => if (v.1 2) i - (v.1 4) i ≤ most then wsN v n (i + 1) found most else wsN v n (i + 1) (nI i) ((v.1 2) i - (v.1 4) i)
def r_X5_worst (V : BV) : Int32 := wsN V.2.1 26 0 (-99999) 0

abbrev rX5_worst : Room := { frames := 0, cells := 0, slots := 0, locals := 0 }
theorem inX5_worst_X3 : ∀ w ∈ u_ws RX3 TX3 11, w ∈ wsX5_worst := by decide +kernel
theorem inX5_worst_X5 : ∀ w ∈ u_ws RX5 TX5 6, w ∈ wsX5_worst := by decide +kernel
set_option maxHeartbeats 4000000 in
set_option maxRecDepth 100000 in
theorem c_X5_worst (l : Launch) (D : va_G) (cy : Nat → ClassId) (ad : AD) (V : BV)  (sz : Nat)  : CI l yX5_worst wsX5_worst rX5_worst D cy [.ref (ad 0 0 0)] (wB cy ad V) sz (r_X5_worst V) (wB cy ad V) 0 0 := by
  refine st_i (ty := .int) (cc := cX5_worst) (maxL := 5) (by decide) rfl rfl (Nat.le_of_ble_eq_true rfl) ?_
  intro pp e s m below meth c A Q ls hx hb hts hown hml hlocks hsz hP hK hD hE hA hl hret
  subst hsz
  have hown : s.vm.findClass RX5 = some m.cls := hown
  have hl : lv_has ls 5 [(0, .ref (ad 0 0 0))] := hl
  obtain ⟨H, hH⟩ : ∃ H, H = s.heap := ⟨_, rfl⟩
  rw [← hH] at hP ⊢
  have hS : va_S A s.heap H [] := by rw [hH]; exact va_S.rf
  obtain ⟨locs, hlo⟩ : ∃ locs : List Loc, locs = [] := ⟨_, rfl⟩
  rw [← hlo] at hS ⊢
  refine lv_ldc (v := (-99999)) hx hb hown (hts _ (List.mem_of_getElem? (i := 1) rfl)) dX5_worst_0 ?_
  refine lv_istore_n (lv' := [(1, .int (-99999 : Int32)), (0, .ref (ad 0 0 0))]) hx hb dX5_worst_2 rfl hl (by decide) rfl (fun ls hl => ?_)
  refine lv_iconst (v := 0) hx hb dX5_worst_3 (by decide) ?_
  refine lv_istore_n (lv' := [(2, .int (0 : Int32)), (1, .int (-99999 : Int32)), (0, .ref (ad 0 0 0))]) hx hb dX5_worst_4 rfl hl (by decide) rfl (fun ls hl => ?_)
  refine lv_iconst (v := 0) hx hb dX5_worst_5 (by decide) ?_
  refine lv_istore_n (lv' := [(3, .int (0 : Int32)), (2, .int (0 : Int32)), (1, .int (-99999 : Int32)), (0, .ref (ad 0 0 0))]) hx hb dX5_worst_6 rfl hl (by decide) rfl (fun ls hl => ?_)
  have hloop : ∀ (k i : Nat) (found : Int32) (most : Int32), i + k = 26 → wsN V.2.1 k i found most = r_X5_worst V → ∀ (H : Heap) (locs : List Loc), va_P D vwCl (wB cy ad V) H → va_D A (wB cy ad V) → va_S A s.heap H locs → ∀ ls : Array Slot, lv_has ls 5 [(0, .ref (ad 0 0 0)), (1, .int found), (2, .int most), (3, .int (nI i))] → W pp l e rX5_worst s m ([.ref (ad 0 0 0)] : List Value).toArray below meth c H locs 0 0 Q (F0 m 7 ls []) := by
    intro k
    induction k with
    | zero =>
      intro i found most hik hq9 H locs hP hD hS ls hl
      have hi : i = 26 := by omega
      refine lv_iload_n hx hb dX5_worst_7 rfl (lv_at hl 3 rfl) ?_
      refine lv_bipush (v := 26) hx hb dX5_worst_8 (by decide) ?_
      refine lv_icmp_ge (tgt := 51) hx hb dX5_worst_10 (by decide) (fun c_1 => ?_) (fun c_1 => absurd (show (26 : Int32) ≤ nI i from by rw [hi]; exact Int32.le_refl _) c_1)
      refine lv_iload_n hx hb dX5_worst_51 rfl (lv_at hl 1 rfl) ?_
      exact hret _ H locs _ ls hq9 hP hD hS dX5_worst_52
    | succ k ih =>
      intro i found most hik hq9 H locs hP hD hS ls hl
      refine lv_iload_n hx hb dX5_worst_7 rfl (lv_at hl 3 rfl) ?_
      refine lv_bipush (v := 26) hx hb dX5_worst_8 (by decide) ?_
      refine lv_icmp_ge (tgt := 51) hx hb dX5_worst_10 (by decide) (fun c_2 => absurd c_2 (nI_ge (a := i) (b := 26) (by omega) (by decide))) (fun c_2 => ?_)
      refine lv_aload_n hx hb dX5_worst_13 rfl (lv_at hl 0 rfl) ?_
      refine va_get (D := D) (ci := 4) (v := .ref (ad 1 0 0)) (C := RX5) (T := TX5) (N := 6) hx hb hts inX5_worst_X5 hown hK hP 0 rfl rfl 1 (by decide) (hts _ (List.mem_of_getElem? (i := 2) rfl)) (fun _ h9 => h9) rfl dX5_worst_14 ?_
      refine va_get (D := D) (ci := 2) (v := .ref (((ad 1) 0) 4)) (C := RX3) (T := TX3) (N := 11) hx hb hts inX5_worst_X3 hown hK hP 7 rfl rfl 3 (by decide) (hts _ (List.mem_of_getElem? (i := 3) rfl)) (fun _ h9 => h9) rfl dX5_worst_17 ?_
      refine lv_iload_n hx hb dX5_worst_20 rfl (lv_at hl 3 rfl) ?_
      refine x_iald (f := (V.2.1.1 2)) (j := i) hx hb hK hP 11 0 rfl rfl (nI_clamp (by omega)) (vp_in_nI (by omega) (by decide)) dX5_worst_21 ?_
      refine lv_aload_n hx hb dX5_worst_22 rfl (lv_at hl 0 rfl) ?_
      refine va_get (D := D) (ci := 4) (v := .ref (ad 1 0 0)) (C := RX5) (T := TX5) (N := 6) hx hb hts inX5_worst_X5 hown hK hP 0 rfl rfl 1 (by decide) (hts _ (List.mem_of_getElem? (i := 2) rfl)) (fun _ h9 => h9) rfl dX5_worst_23 ?_
      refine va_get (D := D) (ci := 2) (v := .ref (((ad 1) 0) 6)) (C := RX3) (T := TX3) (N := 11) hx hb hts inX5_worst_X3 hown hK hP 7 rfl rfl 5 (by decide) (hts _ (List.mem_of_getElem? (i := 4) rfl)) (fun _ h9 => h9) rfl dX5_worst_26 ?_
      refine lv_iload_n hx hb dX5_worst_29 rfl (lv_at hl 3 rfl) ?_
      refine x_iald (f := (V.2.1.1 4)) (j := i) hx hb hK hP 13 0 rfl rfl (nI_clamp (by omega)) (vp_in_nI (by omega) (by decide)) dX5_worst_30 ?_
      refine lv_isub hx hb dX5_worst_31 ?_
      refine lv_istore (lv' := [(4, .int (((V.2.1.1 2) i) - ((V.2.1.1 4) i))), (0, .ref (ad 0 0 0)), (1, .int found), (2, .int most), (3, .int (nI i))]) hx hb dX5_worst_32 hl (by decide) rfl (fun ls hl => ?_)
      refine lv_iload hx hb dX5_worst_34 (lv_at hl 0 rfl) ?_
      refine lv_iload_n hx hb dX5_worst_36 rfl (lv_at hl 3 rfl) ?_
      refine lv_icmp_le (tgt := 45) hx hb dX5_worst_37 (by decide) (fun c_3 => ?_) (fun c_3 => ?_)
      · refine lv_iinc (v := (nI (i + 1))) (lv' := [(3, .int (nI (i + 1))), (4, .int (((V.2.1.1 2) i) - ((V.2.1.1 4) i))), (0, .ref (ad 0 0 0)), (1, .int found), (2, .int most)]) hx hb dX5_worst_45 hl (k := 4) rfl (nI_1 i) (by decide) rfl (fun ls hl => ?_)
        refine lv_goto (tgt := 7) hx hb dX5_worst_48 (by decide) ?_
        exact ih (i + 1) _ _ (by omega) ((if_pos c_3).symm.trans hq9) H locs hP hD hS ls (lv_sub hl [2, 3, 4, 0] rfl)
      · refine lv_iload hx hb dX5_worst_40 (lv_at hl 0 rfl) ?_
        refine lv_istore_n (lv' := [(2, .int (((V.2.1.1 2) i) - ((V.2.1.1 4) i))), (4, .int (((V.2.1.1 2) i) - ((V.2.1.1 4) i))), (0, .ref (ad 0 0 0)), (1, .int found), (3, .int (nI i))]) hx hb dX5_worst_42 rfl hl (by decide) rfl (fun ls hl => ?_)
        refine lv_iload_n hx hb dX5_worst_43 rfl (lv_at hl 4 rfl) ?_
        refine lv_istore_n (lv' := [(1, .int (nI i)), (2, .int (((V.2.1.1 2) i) - ((V.2.1.1 4) i))), (4, .int (((V.2.1.1 2) i) - ((V.2.1.1 4) i))), (0, .ref (ad 0 0 0)), (3, .int (nI i))]) hx hb dX5_worst_44 rfl hl (by decide) rfl (fun ls hl => ?_)
        refine lv_iinc (v := (nI (i + 1))) (lv' := [(3, .int (nI (i + 1))), (1, .int (nI i)), (2, .int (((V.2.1.1 2) i) - ((V.2.1.1 4) i))), (4, .int (((V.2.1.1 2) i) - ((V.2.1.1 4) i))), (0, .ref (ad 0 0 0))]) hx hb dX5_worst_45 hl (k := 4) rfl (nI_1 i) (by decide) rfl (fun ls hl => ?_)
        refine lv_goto (tgt := 7) hx hb dX5_worst_48 (by decide) ?_
        exact ih (i + 1) _ _ (by omega) ((if_neg c_3).symm.trans hq9) H locs hP hD hS ls (lv_sub hl [4, 1, 2, 0] rfl)
  exact hloop 26 0 _ _ rfl rfl H locs hP hD hS ls (lv_sub hl [3, 2, 1, 0] rfl)

/-- the commands of a script one after the other -/
def rsN (n : Int32) (sc : Int64) : Nat → Nat → SV → Int32 × SV
  | 0, _, t => (-99999, t)
  | k + 1, i, t => if r_X2_succeeds t (((r_X5_withoutLastGroups sc ((n - (1 : Int32)) - (nI i))) - (r_X5_withoutLastGroups sc ((n - (1 : Int32)) - (nI i))) / (100000 : Int64) * (100000 : Int64)).toInt32) = 0 then (nI i, w_X2_succeeds t (((r_X5_withoutLastGroups sc ((n - (1 : Int32)) - (nI i))) - (r_X5_withoutLastGroups sc ((n - (1 : Int32)) - (nI i))) / (100000 : Int64) * (100000 : Int64)).toInt32)) else rsN n sc k (i + 1) (w_X2_succeeds t (((r_X5_withoutLastGroups sc ((n - (1 : Int32)) - (nI i))) - (r_X5_withoutLastGroups sc ((n - (1 : Int32)) - (nI i))) / (100000 : Int64) * (100000 : Int64)).toInt32))
def rsR (v : SV) (n : Int32) (sc : Int64) : Int32 × SV := rsN n sc n.toNatClampNeg 0 v
def o_X5_runScript (V : BV) (n : Int32) (sc : Int64) : Int32 × Int32 := if n < (1 : Int32) then ((-9999002 : Int32), (0 : Int32)) else if n ≤ (3 : Int32) then (if (lg_cmp sc (0 : Int64)) < 0 then ((-9999002 : Int32), (0 : Int32)) else if (lg_cmp (r_X5_withoutLastGroups sc n) (0 : Int64)) = 0 then ((0 : Int32), (rsR V.2.1 n sc).1) else ((-9999002 : Int32), (0 : Int32))) else ((-9999002 : Int32), (0 : Int32))
def w_X5_runScript (V : BV) (n : Int32) (sc : Int64) : BV := if n < (1 : Int32) then V else if n ≤ (3 : Int32) then (if (lg_cmp sc (0 : Int64)) < 0 then V else if (lg_cmp (r_X5_withoutLastGroups sc n) (0 : Int64)) = 0 then (V.1, V.2.1, (rsR V.2.1 n sc).2, V.2.2.2) else V) else V

abbrev rX5_runScript : Room := { frames := 6, cells := 1, slots := 6, locals := 145 }
theorem inX5_runScript_X5 : ∀ w ∈ u_ws RX5 TX5 6, w ∈ wsX5_runScript := by decide +kernel
set_option maxHeartbeats 4000000 in
set_option maxRecDepth 100000 in
theorem c_X5_runScript (l : Launch) (hlt : l.stackTraces = false) (D : va_G) (cy : Nat → ClassId) (ad : AD) (V : BV) (n : Int32) (sc : Int64) (sz : Nat) (hsz2 : szok (V.2.1.1 0 0)) : CX l yX5_runScript wsX5_runScript rX5_runScript D cy [.ref (ad 0 0 0), .int n, .long sc] (wB cy ad V) sz (o_X5_runScript V n sc) (wB cy ad (w_X5_runScript V n sc)) 1 6 := by
  refine stx_i (ty := .int) (cc := cX5_runScript) (maxL := 5) (by decide) rfl rfl (Nat.le_of_ble_eq_true rfl) ?_
  intro pp e s m below meth c A Q ls hx hb hts hown hml hlocks htab hsz hP hK hD hE hA hl hAe hQ hret hout
  subst hsz
  have hown : s.vm.findClass RX5 = some m.cls := hown
  have hl : lv_has ls 5 [(0, .ref (ad 0 0 0)), (1, .int n), (2, .long sc)] := hl
  obtain ⟨H, hH⟩ : ∃ H, H = s.heap := ⟨_, rfl⟩
  rw [← hH] at hP ⊢
  have hS : va_S A s.heap H [] := by rw [hH]; exact va_S.rf
  obtain ⟨locs, hlo⟩ : ∃ locs : List Loc, locs = [] := ⟨_, rfl⟩
  rw [← hlo] at hS ⊢
  refine lv_iload_n hx hb dX5_runScript_0 rfl (lv_at hl 1 rfl) ?_
  refine lv_iconst (v := 1) hx hb dX5_runScript_1 (by decide) ?_
  refine lv_icmp_lt (tgt := 10) hx hb dX5_runScript_2 (by decide) (fun c_1 => ?_) (fun c_1 => ?_)
  · have ho9 : (o_X5_runScript V n sc).1 = (-9999002 : Int32) := by unfold o_X5_runScript; simp only [if_pos c_1, if_true, if_false]
    have hw9 : (w_X5_runScript V n sc) = V := by unfold w_X5_runScript; simp only [if_pos c_1, if_true, if_false]
    rw [hQ]
    exact thr_2 (text := "no such number of commands") hx hb hlt hown (hts _ (List.mem_of_getElem? (i := 1) rfl)) (hts _ (List.mem_of_getElem? (i := 2) rfl)) (fun w hw => hts w (List.mem_cons_of_mem _ (List.mem_append_right _ hw))) (by decide +kernel) hE hS (hl.1.trans hml.symm) dX5_runScript_10 dX5_runScript_13 dX5_runScript_14 dX5_runScript_16 dX5_runScript_19 htab (Nat.le_of_ble_eq_true rfl) (Nat.le_of_ble_eq_true rfl) (Nat.le_of_ble_eq_true rfl) (Nat.le_of_ble_eq_true rfl) hlocks hAe ho9 (by rw [hw9]; exact hP) (by rw [hw9]; exact hD) (Nat.le_of_ble_eq_true rfl) (Nat.le_of_ble_eq_true rfl)
  · refine lv_iload_n hx hb dX5_runScript_5 rfl (lv_at hl 1 rfl) ?_
    refine lv_iconst (v := 3) hx hb dX5_runScript_6 (by decide) ?_
    refine lv_icmp_le (tgt := 20) hx hb dX5_runScript_7 (by decide) (fun c_2 => ?_) (fun c_2 => ?_)
    · refine lv_lload_n hx hb dX5_runScript_20 rfl (lv_at hl 2 rfl) ?_
      refine lv_lconst (v := 0) hx hb dX5_runScript_21 rfl ?_
      refine W.lcmp hx hb dX5_runScript_22 ?_
      refine lv_if_lt (tgt := 36) hx hb dX5_runScript_23 (by decide) (fun c_3 => ?_) (fun c_3 => ?_)
      · have ho9 : (o_X5_runScript V n sc).1 = (-9999002 : Int32) := by unfold o_X5_runScript; simp only [if_neg c_1, if_pos c_2, if_pos c_3, if_true, if_false]
        have hw9 : (w_X5_runScript V n sc) = V := by unfold w_X5_runScript; simp only [if_neg c_1, if_pos c_2, if_pos c_3, if_true, if_false]
        rw [hQ]
        exact thr_2 (text := "no script of so many commands") hx hb hlt hown (hts _ (List.mem_of_getElem? (i := 1) rfl)) (hts _ (List.mem_of_getElem? (i := 2) rfl)) (fun w hw => hts w (List.mem_cons_of_mem _ (List.mem_append_right _ hw))) (by decide +kernel) hE hS (hl.1.trans hml.symm) dX5_runScript_36 dX5_runScript_39 dX5_runScript_40 dX5_runScript_42 dX5_runScript_45 htab (Nat.le_of_ble_eq_true rfl) (Nat.le_of_ble_eq_true rfl) (Nat.le_of_ble_eq_true rfl) (Nat.le_of_ble_eq_true rfl) hlocks hAe ho9 (by rw [hw9]; exact hP) (by rw [hw9]; exact hD) (Nat.le_of_ble_eq_true rfl) (Nat.le_of_ble_eq_true rfl)
      · refine lv_lload_n hx hb dX5_runScript_26 rfl (lv_at hl 2 rfl) ?_
        refine lv_iload_n hx hb dX5_runScript_27 rfl (lv_at hl 1 rfl) ?_
        refine cl_l (va_runS (As := [.long sc, .int n]) (rest := []) ⟨hx, hb, hml, hown, hts⟩ (c_X5_withoutLastGroups l D cy sc n H.size) (va_cwS 2 hts gX5_runScript_X5_withoutLastGroups rfl rfl rfl (by decide +kernel) ⟨Nat.le_of_ble_eq_true rfl, Nat.le_of_ble_eq_true rfl⟩) ⟨blU, preU hP hD (List.Perm.refl _) hK hE hS hA⟩ rfl rfl hl.1 rfl (lv_room (Nat.le_of_ble_eq_true rfl)) dX5_runScript_28 ⟨Nat.le_of_ble_eq_true rfl, Nat.le_of_ble_eq_true rfl⟩) hP hD (List.Perm.refl _) hS hA (fun H locs hP hD hS => ?_)
        have hP : va_P D vwCl (wB cy ad V) H := hP
        have hD : va_D A (wB cy ad V) := hD
        refine lv_lconst (v := 0) hx hb dX5_runScript_31 rfl ?_
        refine W.lcmp hx hb dX5_runScript_32 ?_
        refine lv_if_eq (tgt := 46) hx hb dX5_runScript_33 (by decide) (fun c_4 => ?_) (fun c_4 => ?_)
        · refine lv_aload_n hx hb dX5_runScript_46 rfl (lv_at hl 0 rfl) ?_
          refine va_get (D := D) (ci := 4) (v := .ref (ad 2 0 0)) (C := RX5) (T := TX5) (N := 6) hx hb hts inX5_runScript_X5 hown hK hP 0 rfl rfl 2 (by decide) (hts _ (List.mem_of_getElem? (i := 3) rfl)) (fun _ h9 => h9) rfl dX5_runScript_47 ?_
          refine lv_aload_n hx hb dX5_runScript_50 rfl (lv_at hl 0 rfl) ?_
          refine va_get (D := D) (ci := 4) (v := .ref (ad 1 0 0)) (C := RX5) (T := TX5) (N := 6) hx hb hts inX5_runScript_X5 hown hK hP 0 rfl rfl 1 (by decide) (hts _ (List.mem_of_getElem? (i := 4) rfl)) (fun _ h9 => h9) rfl dX5_runScript_51 ?_
          refine cl_n (va_runV (As := [.ref (ad 1 0 0)]) (rest := []) ⟨hx, hb, hml, hown, hts⟩ (c_X3_copyFrom l D cy (ad 2) (ad 1) V.2.2.1 V.2.1 H.size) (cwV 1 hts gX5_runScript_X3_copyFrom rfl rfl rfl (by decide +kernel) ⟨Nat.le_of_ble_eq_true rfl, Nat.le_of_ble_eq_true rfl⟩) ⟨blU, va_recv hK hP (ci := 2) (q0 := 28) rfl rfl, preU hP hD (pmB2 (bB cy ad V) 3 2 _ _ (cS cy (ad 2) V.2.1) (cS cy (ad 1) V.2.1) rfl rfl).1 hK hE hS hA⟩ rfl rfl hl.1 rfl (lv_room (Nat.le_of_ble_eq_true rfl)) dX5_runScript_54 ⟨Nat.le_of_ble_eq_true rfl, Nat.le_of_ble_eq_true rfl⟩) hP hD (pmB2 (bB cy ad V) 3 2 _ _ (cS cy (ad 2) V.2.1) (cS cy (ad 1) V.2.1) rfl rfl).1 hS hA (fun H locs hP hD hS => ?_)
          have hP : va_P D vwCl (wB cy ad (V.1, V.2.1, V.2.1, V.2.2.2.1, V.2.2.2.2.1, V.2.2.2.2.2.1, V.2.2.2.2.2.2)) H := vP_perm hP ((pmB2 (bB cy ad V) 3 2 _ _ (cS cy (ad 2) V.2.1) (cS cy (ad 1) V.2.1) rfl rfl).2.trans (pmB (bB cy ad (V.1, V.2.1, V.2.1, V.2.2.2.1, V.2.2.2.2.1, V.2.2.2.2.2.1, V.2.2.2.2.2.2)) 3 _ (cS cy (ad 2) V.2.1) rfl).1.symm)
          have hD : va_D A (wB cy ad (V.1, V.2.1, V.2.1, V.2.2.2.1, V.2.2.2.2.1, V.2.2.2.2.2.1, V.2.2.2.2.2.2)) := vD_perm hD ((pmB2 (bB cy ad V) 3 2 _ _ (cS cy (ad 2) V.2.1) (cS cy (ad 1) V.2.1) rfl rfl).2.trans (pmB (bB cy ad (V.1, V.2.1, V.2.1, V.2.2.2.1, V.2.2.2.2.1, V.2.2.2.2.2.1, V.2.2.2.2.2.2)) 3 _ (cS cy (ad 2) V.2.1) rfl).1.symm)
          refine lv_iconst (v := 0) hx hb dX5_runScript_57 (by decide) ?_
          refine lv_istore (lv' := [(4, .int (0 : Int32)), (0, .ref (ad 0 0 0)), (1, .int n), (2, .long sc)]) hx hb dX5_runScript_58 hl (by decide) rfl (fun ls hl => ?_)
          have hN : n.toNatClampNeg < 2 ^ 31 := tnc_lt n
          have hloop : ∀ (k i : Nat) (t : SV), i + k = n.toNatClampNeg → szok (t.1 0 0) → rsN n sc k i t = rsR V.2.1 n sc → ∀ (H : Heap) (locs : List Loc), va_P D vwCl (wB cy ad (V.1, V.2.1, t, V.2.2.2.1, V.2.2.2.2.1, V.2.2.2.2.2.1, V.2.2.2.2.2.2)) H → va_D A (wB cy ad (V.1, V.2.1, t, V.2.2.2.1, V.2.2.2.2.1, V.2.2.2.2.2.1, V.2.2.2.2.2.2)) → va_S A s.heap H locs → ∀ ls : Array Slot, lv_has ls 5 [(0, .ref (ad 0 0 0)), (1, .int n), (2, .long sc), (4, .int (nI i))] → W pp l e rX5_runScript s m ([.ref (ad 0 0 0), .int n, .long sc] : List Value).toArray below meth c H locs 0 0 Q (F0 m 60 ls []) := by
            intro k
            induction k with
            | zero =>
              intro i t hik ht hq9 H locs hP hD hS ls hl
              refine lv_iload hx hb dX5_runScript_60 (lv_at hl 3 rfl) ?_
              refine lv_iload_n hx hb dX5_runScript_62 rfl (lv_at hl 1 rfl) ?_
              refine lv_icmp_ge (tgt := 100) hx hb dX5_runScript_63 (by decide) (fun c_5 => ?_) (fun c_5 => absurd (ge_ofc (by omega) (by omega)) c_5)
              refine lv_ldc (v := (-99999)) hx hb hown (hts _ (List.mem_of_getElem? (i := 6) rfl)) dX5_runScript_100 ?_
              refine W.widen (k := 1) (n := 6) (Nat.le_of_ble_eq_true rfl) (Nat.le_of_ble_eq_true rfl) ?_
              have hq7 : ((-99999 : Int32), t) = rsR V.2.1 n sc := hq9
              have hr9 : o_X5_runScript V n sc = ((0 : Int32), (-99999 : Int32)) := by unfold o_X5_runScript; simp only [if_neg c_1, if_pos c_2, if_neg c_3, if_pos c_4, if_true, if_false]; rw [← hq7]
              have hw9 : w_X5_runScript V n sc = (V.1, V.2.1, t, V.2.2.2.1, V.2.2.2.2.1, V.2.2.2.2.2.1, V.2.2.2.2.2.2) := by unfold w_X5_runScript; simp only [if_neg c_1, if_pos c_2, if_neg c_3, if_pos c_4, if_true, if_false]; rw [← hq7]
              exact hret _ H locs _ ls hr9 (by rw [hw9]; exact hP) (by rw [hw9]; exact hD) hS dX5_runScript_102
            | succ k ih =>
              intro i t hik ht hq9 H locs hP hD hS ls hl
              refine lv_iload hx hb dX5_runScript_60 (lv_at hl 3 rfl) ?_
              refine lv_iload_n hx hb dX5_runScript_62 rfl (lv_at hl 1 rfl) ?_
              refine lv_icmp_ge (tgt := 100) hx hb dX5_runScript_63 (by decide) (fun c_6 => absurd c_6 (lt_ofc (by omega) (by omega))) (fun c_6 => ?_)
              refine lv_aload_n hx hb dX5_runScript_66 rfl (lv_at hl 0 rfl) ?_
              refine va_get (D := D) (ci := 4) (v := .ref (ad 2 0 0)) (C := RX5) (T := TX5) (N := 6) hx hb hts inX5_runScript_X5 hown hK hP 0 rfl rfl 2 (by decide) (hts _ (List.mem_of_getElem? (i := 3) rfl)) (fun _ h9 => h9) rfl dX5_runScript_67 ?_
              refine lv_lload_n hx hb dX5_runScript_70 rfl (lv_at hl 2 rfl) ?_
              refine lv_iload_n hx hb dX5_runScript_71 rfl (lv_at hl 1 rfl) ?_
              refine lv_iconst (v := 1) hx hb dX5_runScript_72 (by decide) ?_
              refine lv_isub hx hb dX5_runScript_73 ?_
              refine lv_iload hx hb dX5_runScript_74 (lv_at hl 3 rfl) ?_
              refine lv_isub hx hb dX5_runScript_76 ?_
              refine cl_l (va_runS (As := [.long sc, .int ((n - (1 : Int32)) - (nI i))]) (rest := [.ref (ad 2 0 0)]) ⟨hx, hb, hml, hown, hts⟩ (c_X5_withoutLastGroups l D cy sc ((n - (1 : Int32)) - (nI i)) H.size) (va_cwS 2 hts gX5_runScript_X5_withoutLastGroups rfl rfl rfl (by decide +kernel) ⟨Nat.le_of_ble_eq_true rfl, Nat.le_of_ble_eq_true rfl⟩) ⟨blU, preU hP hD (List.Perm.refl _) hK hE hS hA⟩ rfl rfl hl.1 rfl (lv_room (Nat.le_of_ble_eq_true rfl)) dX5_runScript_77 ⟨Nat.le_of_ble_eq_true rfl, Nat.le_of_ble_eq_true rfl⟩) hP hD (List.Perm.refl _) hS hA (fun H locs hP hD hS => ?_)
              have hP : va_P D vwCl (wB cy ad (V.1, V.2.1, t, V.2.2.2.1, V.2.2.2.2.1, V.2.2.2.2.2.1, V.2.2.2.2.2.2)) H := hP
              have hD : va_D A (wB cy ad (V.1, V.2.1, t, V.2.2.2.1, V.2.2.2.2.1, V.2.2.2.2.2.1, V.2.2.2.2.2.2)) := hD
              refine lv_ldc2 (v := (100000)) hx hb hown (hts _ (List.mem_of_getElem? (i := 5) rfl)) dX5_runScript_80 ?_
              refine lv_lrem hx hb dX5_runScript_83 (by decide) ?_
              refine lv_l2i (v := ((r_X5_withoutLastGroups sc ((n - (1 : Int32)) - (nI i))) - (r_X5_withoutLastGroups sc ((n - (1 : Int32)) - (nI i))) / (100000 : Int64) * (100000 : Int64)).toInt32) hx hb dX5_runScript_84 rfl ?_
              refine cl_i (va_runS (As := [.ref (ad 2 0 0), .int ((r_X5_withoutLastGroups sc ((n - (1 : Int32)) - (nI i))) - (r_X5_withoutLastGroups sc ((n - (1 : Int32)) - (nI i))) / (100000 : Int64) * (100000 : Int64)).toInt32]) (rest := []) ⟨hx, hb, hml, hown, hts⟩ (c_X2_succeeds l D cy (ad 2) t (((r_X5_withoutLastGroups sc ((n - (1 : Int32)) - (nI i))) - (r_X5_withoutLastGroups sc ((n - (1 : Int32)) - (nI i))) / (100000 : Int64) * (100000 : Int64)).toInt32) H.size ht) (va_cwS 2 hts gX5_runScript_X2_succeeds rfl rfl rfl (by decide +kernel) ⟨Nat.le_of_ble_eq_true rfl, Nat.le_of_ble_eq_true rfl⟩) ⟨blU, preU hP hD (pmB (bB cy ad (V.1, V.2.1, t, V.2.2.2.1, V.2.2.2.2.1, V.2.2.2.2.2.1, V.2.2.2.2.2.2)) 3 _ (cS cy (ad 2) (w_X2_succeeds t (((r_X5_withoutLastGroups sc ((n - (1 : Int32)) - (nI i))) - (r_X5_withoutLastGroups sc ((n - (1 : Int32)) - (nI i))) / (100000 : Int64) * (100000 : Int64)).toInt32))) rfl).1 hK hE hS hA⟩ rfl rfl hl.1 rfl (lv_room (Nat.le_of_ble_eq_true rfl)) dX5_runScript_85 ⟨Nat.le_of_ble_eq_true rfl, Nat.le_of_ble_eq_true rfl⟩) hP hD (pmB (bB cy ad (V.1, V.2.1, t, V.2.2.2.1, V.2.2.2.2.1, V.2.2.2.2.2.1, V.2.2.2.2.2.2)) 3 _ (cS cy (ad 2) (w_X2_succeeds t (((r_X5_withoutLastGroups sc ((n - (1 : Int32)) - (nI i))) - (r_X5_withoutLastGroups sc ((n - (1 : Int32)) - (nI i))) / (100000 : Int64) * (100000 : Int64)).toInt32))) rfl).1 hS hA (fun H locs hP hD hS => ?_)
              have hP : va_P D vwCl (wB cy ad (V.1, V.2.1, (w_X2_succeeds t (((r_X5_withoutLastGroups sc ((n - (1 : Int32)) - (nI i))) - (r_X5_withoutLastGroups sc ((n - (1 : Int32)) - (nI i))) / (100000 : Int64) * (100000 : Int64)).toInt32)), V.2.2.2.1, V.2.2.2.2.1, V.2.2.2.2.2.1, V.2.2.2.2.2.2)) H := vP_perm hP (pmB (bB cy ad (V.1, V.2.1, t, V.2.2.2.1, V.2.2.2.2.1, V.2.2.2.2.2.1, V.2.2.2.2.2.2)) 3 _ (cS cy (ad 2) (w_X2_succeeds t (((r_X5_withoutLastGroups sc ((n - (1 : Int32)) - (nI i))) - (r_X5_withoutLastGroups sc ((n - (1 : Int32)) - (nI i))) / (100000 : Int64) * (100000 : Int64)).toInt32))) rfl).2
              have hD : va_D A (wB cy ad (V.1, V.2.1, (w_X2_succeeds t (((r_X5_withoutLastGroups sc ((n - (1 : Int32)) - (nI i))) - (r_X5_withoutLastGroups sc ((n - (1 : Int32)) - (nI i))) / (100000 : Int64) * (100000 : Int64)).toInt32)), V.2.2.2.1, V.2.2.2.2.1, V.2.2.2.2.2.1, V.2.2.2.2.2.2)) := vD_perm hD (pmB (bB cy ad (V.1, V.2.1, t, V.2.2.2.1, V.2.2.2.2.1, V.2.2.2.2.2.1, V.2.2.2.2.2.2)) 3 _ (cS cy (ad 2) (w_X2_succeeds t (((r_X5_withoutLastGroups sc ((n - (1 : Int32)) - (nI i))) - (r_X5_withoutLastGroups sc ((n - (1 : Int32)) - (nI i))) / (100000 : Int64) * (100000 : Int64)).toInt32))) rfl).2
              refine lv_if_ne (tgt := 94) hx hb dX5_runScript_88 (by decide) (fun c_7 => ?_) (fun c_7 => ?_)
              · refine lv_iinc (v := (nI (i + 1))) (lv' := [(4, .int (nI (i + 1))), (0, .ref (ad 0 0 0)), (1, .int n), (2, .long sc)]) hx hb dX5_runScript_94 hl (k := 3) rfl (nI_1 i) (by decide) rfl (fun ls hl => ?_)
                refine lv_goto (tgt := 60) hx hb dX5_runScript_97 (by decide) ?_
                exact ih (i + 1) _ (by omega) (succ_szok _ ht) ((if_neg c_7).symm.trans hq9) H locs hP hD hS ls (lv_sub hl [1, 2, 3, 0] rfl)
              · refine lv_iload hx hb dX5_runScript_91 (lv_at hl 3 rfl) ?_
                refine W.widen (k := 1) (n := 6) (Nat.le_of_ble_eq_true rfl) (Nat.le_of_ble_eq_true rfl) ?_
                have hq7 : ((nI i), (w_X2_succeeds t (((r_X5_withoutLastGroups sc ((n - (1 : Int32)) - (nI i))) - (r_X5_withoutLastGroups sc ((n - (1 : Int32)) - (nI i))) / (100000 : Int64) * (100000 : Int64)).toInt32))) = rsR V.2.1 n sc := ((if_pos c_7).symm.trans hq9)
                have hr9 : o_X5_runScript V n sc = ((0 : Int32), (nI i)) := by unfold o_X5_runScript; simp only [if_neg c_1, if_pos c_2, if_neg c_3, if_pos c_4, if_true, if_false]; rw [← hq7]
                have hw9 : w_X5_runScript V n sc = (V.1, V.2.1, (w_X2_succeeds t (((r_X5_withoutLastGroups sc ((n - (1 : Int32)) - (nI i))) - (r_X5_withoutLastGroups sc ((n - (1 : Int32)) - (nI i))) / (100000 : Int64) * (100000 : Int64)).toInt32)), V.2.2.2.1, V.2.2.2.2.1, V.2.2.2.2.2.1, V.2.2.2.2.2.2) := by unfold w_X5_runScript; simp only [if_neg c_1, if_pos c_2, if_neg c_3, if_pos c_4, if_true, if_false]; rw [← hq7]
                exact hret _ H locs _ ls hr9 (by rw [hw9]; exact hP) (by rw [hw9]; exact hD) hS dX5_runScript_93
          exact hloop _ 0 V.2.1 (Nat.zero_add _) hsz2 rfl H locs hP hD hS ls (lv_sub hl [1, 2, 3, 0] rfl)
        · have ho9 : (o_X5_runScript V n sc).1 = (-9999002 : Int32) := by unfold o_X5_runScript; simp only [if_neg c_1, if_pos c_2, if_neg c_3, if_neg c_4, if_true, if_false]
          have hw9 : (w_X5_runScript V n sc) = V := by unfold w_X5_runScript; simp only [if_neg c_1, if_pos c_2, if_neg c_3, if_neg c_4, if_true, if_false]
          rw [hQ]
          exact thr_2 (text := "no script of so many commands") hx hb hlt hown (hts _ (List.mem_of_getElem? (i := 1) rfl)) (hts _ (List.mem_of_getElem? (i := 2) rfl)) (fun w hw => hts w (List.mem_cons_of_mem _ (List.mem_append_right _ hw))) (by decide +kernel) hE hS (hl.1.trans hml.symm) dX5_runScript_36 dX5_runScript_39 dX5_runScript_40 dX5_runScript_42 dX5_runScript_45 htab (Nat.le_of_ble_eq_true rfl) (Nat.le_of_ble_eq_true rfl) (Nat.le_of_ble_eq_true rfl) (Nat.le_of_ble_eq_true rfl) hlocks hAe ho9 (by rw [hw9]; exact hP) (by rw [hw9]; exact hD) (Nat.le_of_ble_eq_true rfl) (Nat.le_of_ble_eq_true rfl)
    · have ho9 : (o_X5_runScript V n sc).1 = (-9999002 : Int32) := by unfold o_X5_runScript; simp only [if_neg c_1, if_neg c_2, if_true, if_false]
      have hw9 : (w_X5_runScript V n sc) = V := by unfold w_X5_runScript; simp only [if_neg c_1, if_neg c_2, if_true, if_false]
      rw [hQ]
      exact thr_2 (text := "no such number of commands") hx hb hlt hown (hts _ (List.mem_of_getElem? (i := 1) rfl)) (hts _ (List.mem_of_getElem? (i := 2) rfl)) (fun w hw => hts w (List.mem_cons_of_mem _ (List.mem_append_right _ hw))) (by decide +kernel) hE hS (hl.1.trans hml.symm) dX5_runScript_10 dX5_runScript_13 dX5_runScript_14 dX5_runScript_16 dX5_runScript_19 htab (Nat.le_of_ble_eq_true rfl) (Nat.le_of_ble_eq_true rfl) (Nat.le_of_ble_eq_true rfl) (Nat.le_of_ble_eq_true rfl) hlocks hAe ho9 (by rw [hw9]; exact hP) (by rw [hw9]; exact hD) (Nat.le_of_ble_eq_true rfl) (Nat.le_of_ble_eq_true rfl)

/-- the branches of a simulation -/
def smN : Nat → Int64 → Int32 → SV → SV
  | 0, _, _, t => t
  | n + 1, x, tk, t => smN n ((x * (6364136223846793005 : Int64)) + (1442695040888963407 : Int64)) (if (((((x * (6364136223846793005 : Int64)) + (1442695040888963407 : Int64)).toUInt64 >>> ((33 : Int32).toInt64.toUInt64 &&& Int64.toUInt64 63)).toInt64.toInt32 / (8 : Int32)) - ((((x * (6364136223846793005 : Int64)) + (1442695040888963407 : Int64)).toUInt64 >>> ((33 : Int32).toInt64.toUInt64 &&& Int64.toUInt64 63)).toInt64.toInt32 / (8 : Int32)) / (8 : Int32) * (8 : Int32)) < ((((x * (6364136223846793005 : Int64)) + (1442695040888963407 : Int64)).toUInt64 >>> ((33 : Int32).toInt64.toUInt64 &&& Int64.toUInt64 63)).toInt64.toInt32 - (((x * (6364136223846793005 : Int64)) + (1442695040888963407 : Int64)).toUInt64 >>> ((33 : Int32).toInt64.toUInt64 &&& Int64.toUInt64 63)).toInt64.toInt32 / (8 : Int32) * (8 : Int32)) then (1 : Int32) else (if tk = 0 then (1 : Int32) else (0 : Int32))) (w_X3_go t ((((x * (6364136223846793005 : Int64)) + (1442695040888963407 : Int64)).toUInt64 >>> ((33 : Int32).toInt64.toUInt64 &&& Int64.toUInt64 63)).toInt64.toInt32 - (((x * (6364136223846793005 : Int64)) + (1442695040888963407 : Int64)).toUInt64 >>> ((33 : Int32).toInt64.toUInt64 &&& Int64.toUInt64 63)).toInt64.toInt32 / (8 : Int32) * (8 : Int32)) (if (((((x * (6364136223846793005 : Int64)) + (1442695040888963407 : Int64)).toUInt64 >>> ((33 : Int32).toInt64.toUInt64 &&& Int64.toUInt64 63)).toInt64.toInt32 / (8 : Int32)) - ((((x * (6364136223846793005 : Int64)) + (1442695040888963407 : Int64)).toUInt64 >>> ((33 : Int32).toInt64.toUInt64 &&& Int64.toUInt64 63)).toInt64.toInt32 / (8 : Int32)) / (8 : Int32) * (8 : Int32)) < ((((x * (6364136223846793005 : Int64)) + (1442695040888963407 : Int64)).toUInt64 >>> ((33 : Int32).toInt64.toUInt64 &&& Int64.toUInt64 63)).toInt64.toInt32 - (((x * (6364136223846793005 : Int64)) + (1442695040888963407 : Int64)).toUInt64 >>> ((33 : Int32).toInt64.toUInt64 &&& Int64.toUInt64 63)).toInt64.toInt32 / (8 : Int32) * (8 : Int32)) then (1 : Int32) else (if tk = 0 then (1 : Int32) else (0 : Int32))))
def smR (v : SV) (seed : Int64) (n : Int32) : SV := smN n.toNatClampNeg seed 0 v
def smA (V : BV) (t : SV) : Int32 := (((1000 : Int32) * ((t.1 6 0) - (V.2.1.1 6 0))) + (if (999 : Int32) < ((r_X3_allClashes t) - (r_X3_allClashes V.2.1)) then (999 : Int32) else ((r_X3_allClashes t) - (r_X3_allClashes V.2.1))))
def o_X5_simulate (V : BV) (seed : Int64) (n : Int32) : Int32 × Int32 := if n < (1 : Int32) then ((-9999002 : Int32), (0 : Int32)) else if n ≤ (300 : Int32) then ((0 : Int32), smA V (smR V.2.1 seed n)) else ((-9999002 : Int32), (0 : Int32))
def w_X5_simulate (V : BV) (seed : Int64) (n : Int32) : BV := if n < (1 : Int32) then V else if n ≤ (300 : Int32) then (V.1, V.2.1, smR V.2.1 seed n, V.2.2.2) else V

abbrev rX5_simulate : Room := { frames := 6, cells := 1, slots := 6, locals := 103 }
theorem inX5_simulate_X3 : ∀ w ∈ u_ws RX3 TX3 11, w ∈ wsX5_simulate := by decide +kernel
theorem inX5_simulate_X5 : ∀ w ∈ u_ws RX5 TX5 6, w ∈ wsX5_simulate := by decide +kernel
set_option maxHeartbeats 4000000 in
set_option maxRecDepth 100000 in
theorem c_X5_simulate (l : Launch) (hlt : l.stackTraces = false) (D : va_G) (cy : Nat → ClassId) (ad : AD) (V : BV) (seed : Int64) (n : Int32) (sz : Nat) (hsz2 : szok (V.2.1.1 0 0)) : CX l yX5_simulate wsX5_simulate rX5_simulate D cy [.ref (ad 0 0 0), .long seed, .int n] (wB cy ad V) sz (o_X5_simulate V seed n) (wB cy ad (w_X5_simulate V seed n)) 1 6 := by
  refine stx_i (ty := .int) (cc := cX5_simulate) (maxL := 10) (by decide) rfl rfl (Nat.le_of_ble_eq_true rfl) ?_
  intro pp e s m below meth c A Q ls hx hb hts hown hml hlocks htab hsz hP hK hD hE hA hl hAe hQ hret hout
  subst hsz
  have hown : s.vm.findClass RX5 = some m.cls := hown
  have hl : lv_has ls 10 [(0, .ref (ad 0 0 0)), (1, .long seed), (3, .int n)] := hl
  obtain ⟨H, hH⟩ : ∃ H, H = s.heap := ⟨_, rfl⟩
  rw [← hH] at hP ⊢
  have hS : va_S A s.heap H [] := by rw [hH]; exact va_S.rf
  obtain ⟨locs, hlo⟩ : ∃ locs : List Loc, locs = [] := ⟨_, rfl⟩
  rw [← hlo] at hS ⊢
  refine lv_iload_n hx hb dX5_simulate_0 rfl (lv_at hl 2 rfl) ?_
  refine lv_iconst (v := 1) hx hb dX5_simulate_1 (by decide) ?_
  refine lv_icmp_lt (tgt := 12) hx hb dX5_simulate_2 (by decide) (fun c_1 => ?_) (fun c_1 => ?_)
  · have ho9 : (o_X5_simulate V seed n).1 = (-9999002 : Int32) := by unfold o_X5_simulate; simp only [if_pos c_1, if_true, if_false]
    have hw9 : (w_X5_simulate V seed n) = V := by unfold w_X5_simulate; simp only [if_pos c_1, if_true, if_false]
    rw [hQ]
    exact thr_2 (text := "no such number of branches") hx hb hlt hown (hts _ (List.mem_of_getElem? (i := 1) rfl)) (hts _ (List.mem_of_getElem? (i := 2) rfl)) (fun w hw => hts w (List.mem_cons_of_mem _ (List.mem_append_right _ hw))) (by decide +kernel) hE hS (hl.1.trans hml.symm) dX5_simulate_12 dX5_simulate_15 dX5_simulate_16 dX5_simulate_18 dX5_simulate_21 htab (Nat.le_of_ble_eq_true rfl) (Nat.le_of_ble_eq_true rfl) (Nat.le_of_ble_eq_true rfl) (Nat.le_of_ble_eq_true rfl) hlocks hAe ho9 (by rw [hw9]; exact hP) (by rw [hw9]; exact hD) (Nat.le_of_ble_eq_true rfl) (Nat.le_of_ble_eq_true rfl)
  · refine lv_iload_n hx hb dX5_simulate_5 rfl (lv_at hl 2 rfl) ?_
    refine lv_sipush (v := 300) hx hb dX5_simulate_6 (by decide) ?_
    refine lv_icmp_le (tgt := 22) hx hb dX5_simulate_9 (by decide) (fun c_2 => ?_) (fun c_2 => ?_)
    · refine lv_aload_n hx hb dX5_simulate_22 rfl (lv_at hl 0 rfl) ?_
      refine va_get (D := D) (ci := 4) (v := .ref (ad 2 0 0)) (C := RX5) (T := TX5) (N := 6) hx hb hts inX5_simulate_X5 hown hK hP 0 rfl rfl 2 (by decide) (hts _ (List.mem_of_getElem? (i := 3) rfl)) (fun _ h9 => h9) rfl dX5_simulate_23 ?_
      refine lv_aload_n hx hb dX5_simulate_26 rfl (lv_at hl 0 rfl) ?_
      refine va_get (D := D) (ci := 4) (v := .ref (ad 1 0 0)) (C := RX5) (T := TX5) (N := 6) hx hb hts inX5_simulate_X5 hown hK hP 0 rfl rfl 1 (by decide) (hts _ (List.mem_of_getElem? (i := 4) rfl)) (fun _ h9 => h9) rfl dX5_simulate_27 ?_
      refine cl_n (va_runV (As := [.ref (ad 1 0 0)]) (rest := []) ⟨hx, hb, hml, hown, hts⟩ (c_X3_copyFrom l D cy (ad 2) (ad 1) V.2.2.1 V.2.1 H.size) (cwV 1 hts gX5_simulate_X3_copyFrom rfl rfl rfl (by decide +kernel) ⟨Nat.le_of_ble_eq_true rfl, Nat.le_of_ble_eq_true rfl⟩) ⟨blU, va_recv hK hP (ci := 2) (q0 := 28) rfl rfl, preU hP hD (pmB2 (bB cy ad V) 3 2 _ _ (cS cy (ad 2) V.2.1) (cS cy (ad 1) V.2.1) rfl rfl).1 hK hE hS hA⟩ rfl rfl hl.1 rfl (lv_room (Nat.le_of_ble_eq_true rfl)) dX5_simulate_30 ⟨Nat.le_of_ble_eq_true rfl, Nat.le_of_ble_eq_true rfl⟩) hP hD (pmB2 (bB cy ad V) 3 2 _ _ (cS cy (ad 2) V.2.1) (cS cy (ad 1) V.2.1) rfl rfl).1 hS hA (fun H locs hP hD hS => ?_)
      have hP : va_P D vwCl (wB cy ad (V.1, V.2.1, V.2.1, V.2.2.2.1, V.2.2.2.2.1, V.2.2.2.2.2.1, V.2.2.2.2.2.2)) H := vP_perm hP ((pmB2 (bB cy ad V) 3 2 _ _ (cS cy (ad 2) V.2.1) (cS cy (ad 1) V.2.1) rfl rfl).2.trans (pmB (bB cy ad (V.1, V.2.1, V.2.1, V.2.2.2.1, V.2.2.2.2.1, V.2.2.2.2.2.1, V.2.2.2.2.2.2)) 3 _ (cS cy (ad 2) V.2.1) rfl).1.symm)
      have hD : va_D A (wB cy ad (V.1, V.2.1, V.2.1, V.2.2.2.1, V.2.2.2.2.1, V.2.2.2.2.2.1, V.2.2.2.2.2.2)) := vD_perm hD ((pmB2 (bB cy ad V) 3 2 _ _ (cS cy (ad 2) V.2.1) (cS cy (ad 1) V.2.1) rfl rfl).2.trans (pmB (bB cy ad (V.1, V.2.1, V.2.1, V.2.2.2.1, V.2.2.2.2.1, V.2.2.2.2.2.1, V.2.2.2.2.2.2)) 3 _ (cS cy (ad 2) V.2.1) rfl).1.symm)
      refine lv_lload_n hx hb dX5_simulate_33 rfl (lv_at hl 1 rfl) ?_
      refine lv_lstore (lv' := [(4, .long seed), (0, .ref (ad 0 0 0)), (1, .long seed), (3, .int n)]) hx hb dX5_simulate_34 hl (by decide) rfl (fun ls hl => ?_)
      refine lv_iconst (v := 0) hx hb dX5_simulate_36 (by decide) ?_
      refine lv_istore (lv' := [(6, .int (0 : Int32)), (4, .long seed), (0, .ref (ad 0 0 0)), (1, .long seed), (3, .int n)]) hx hb dX5_simulate_37 hl (by decide) rfl (fun ls hl => ?_)
      refine lv_iconst (v := 0) hx hb dX5_simulate_39 (by decide) ?_
      refine lv_istore (lv' := [(7, .int (0 : Int32)), (6, .int (0 : Int32)), (4, .long seed), (0, .ref (ad 0 0 0)), (1, .long seed), (3, .int n)]) hx hb dX5_simulate_40 hl (by decide) rfl (fun ls hl => ?_)
      have hN : n.toNatClampNeg < 2 ^ 31 := tnc_lt n
      have hloop : ∀ (k i : Nat) (x : Int64) (tk : Int32) (t : SV), i + k = n.toNatClampNeg → t.1 0 = V.2.1.1 0 → smN k x tk t = smR V.2.1 seed n → ∀ (H : Heap) (locs : List Loc), va_P D vwCl (wB cy ad (V.1, V.2.1, t, V.2.2.2.1, V.2.2.2.2.1, V.2.2.2.2.2.1, V.2.2.2.2.2.2)) H → va_D A (wB cy ad (V.1, V.2.1, t, V.2.2.2.1, V.2.2.2.2.1, V.2.2.2.2.2.1, V.2.2.2.2.2.2)) → va_S A s.heap H locs → ∀ ls : Array Slot, lv_has ls 10 [(0, .ref (ad 0 0 0)), (1, .long seed), (3, .int n), (4, .long x), (6, .int tk), (7, .int (nI i))] → W pp l e rX5_simulate s m ([.ref (ad 0 0 0), .long seed, .int n] : List Value).toArray below meth c H locs 0 0 Q (F0 m 42 ls []) := by
        intro k
        induction k with
        | zero =>
          intro i x tk t hik ht hq9 H locs hP hD hS ls hl
          refine lv_iload hx hb dX5_simulate_42 (lv_at hl 5 rfl) ?_
          refine lv_iload_n hx hb dX5_simulate_44 rfl (lv_at hl 2 rfl) ?_
          refine lv_icmp_ge (tgt := 118) hx hb dX5_simulate_45 (by decide) (fun c_3 => ?_) (fun c_3 => absurd (ge_ofc (by omega) (by omega)) c_3)
          refine lv_aload_n hx hb dX5_simulate_118 rfl (lv_at hl 0 rfl) ?_
          refine va_get (D := D) (ci := 4) (v := .ref (ad 2 0 0)) (C := RX5) (T := TX5) (N := 6) hx hb hts inX5_simulate_X5 hown hK hP 0 rfl rfl 2 (by decide) (hts _ (List.mem_of_getElem? (i := 3) rfl)) (fun _ h9 => h9) rfl dX5_simulate_119 ?_
          refine cl_i (va_runV (As := []) (rest := []) ⟨hx, hb, hml, hown, hts⟩ (c_X3_allClashes l D cy (ad 2) t H.size) (cwV 0 hts gX5_simulate_X3_allClashes rfl rfl rfl (by decide +kernel) ⟨Nat.le_of_ble_eq_true rfl, Nat.le_of_ble_eq_true rfl⟩) ⟨blU, va_recv hK hP (ci := 2) (q0 := 28) rfl rfl, preU hP hD (pmB (bB cy ad (V.1, V.2.1, t, V.2.2.2.1, V.2.2.2.2.1, V.2.2.2.2.2.1, V.2.2.2.2.2.2)) 3 _ (cS cy (ad 2) t) rfl).1 hK hE hS hA⟩ rfl rfl hl.1 rfl (lv_room (Nat.le_of_ble_eq_true rfl)) dX5_simulate_122 ⟨Nat.le_of_ble_eq_true rfl, Nat.le_of_ble_eq_true rfl⟩) hP hD (pmB (bB cy ad (V.1, V.2.1, t, V.2.2.2.1, V.2.2.2.2.1, V.2.2.2.2.2.1, V.2.2.2.2.2.2)) 3 _ (cS cy (ad 2) t) rfl).1 hS hA (fun H locs hP hD hS => ?_)
          have hP : va_P D vwCl (wB cy ad (V.1, V.2.1, t, V.2.2.2.1, V.2.2.2.2.1, V.2.2.2.2.2.1, V.2.2.2.2.2.2)) H := vP_perm hP (pmB (bB cy ad (V.1, V.2.1, t, V.2.2.2.1, V.2.2.2.2.1, V.2.2.2.2.2.1, V.2.2.2.2.2.2)) 3 _ (cS cy (ad 2) t) rfl).2
          have hD : va_D A (wB cy ad (V.1, V.2.1, t, V.2.2.2.1, V.2.2.2.2.1, V.2.2.2.2.2.1, V.2.2.2.2.2.2)) := vD_perm hD (pmB (bB cy ad (V.1, V.2.1, t, V.2.2.2.1, V.2.2.2.2.1, V.2.2.2.2.2.1, V.2.2.2.2.2.2)) 3 _ (cS cy (ad 2) t) rfl).2
          refine lv_aload_n hx hb dX5_simulate_125 rfl (lv_at hl 0 rfl) ?_
          refine va_get (D := D) (ci := 4) (v := .ref (ad 1 0 0)) (C := RX5) (T := TX5) (N := 6) hx hb hts inX5_simulate_X5 hown hK hP 0 rfl rfl 1 (by decide) (hts _ (List.mem_of_getElem? (i := 4) rfl)) (fun _ h9 => h9) rfl dX5_simulate_126 ?_
          refine cl_i (va_runV (As := []) (rest := [.int (r_X3_allClashes t)]) ⟨hx, hb, hml, hown, hts⟩ (c_X3_allClashes l D cy (ad 1) V.2.1 H.size) (cwV 0 hts gX5_simulate_X3_allClashes rfl rfl rfl (by decide +kernel) ⟨Nat.le_of_ble_eq_true rfl, Nat.le_of_ble_eq_true rfl⟩) ⟨blU, va_recv hK hP (ci := 2) (q0 := 7) rfl rfl, preU hP hD (pmB (bB cy ad (V.1, V.2.1, t, V.2.2.2.1, V.2.2.2.2.1, V.2.2.2.2.2.1, V.2.2.2.2.2.2)) 2 _ (cS cy (ad 1) V.2.1) rfl).1 hK hE hS hA⟩ rfl rfl hl.1 rfl (lv_room (Nat.le_of_ble_eq_true rfl)) dX5_simulate_129 ⟨Nat.le_of_ble_eq_true rfl, Nat.le_of_ble_eq_true rfl⟩) hP hD (pmB (bB cy ad (V.1, V.2.1, t, V.2.2.2.1, V.2.2.2.2.1, V.2.2.2.2.2.1, V.2.2.2.2.2.2)) 2 _ (cS cy (ad 1) V.2.1) rfl).1 hS hA (fun H locs hP hD hS => ?_)
          have hP : va_P D vwCl (wB cy ad (V.1, V.2.1, t, V.2.2.2.1, V.2.2.2.2.1, V.2.2.2.2.2.1, V.2.2.2.2.2.2)) H := vP_perm hP (pmB (bB cy ad (V.1, V.2.1, t, V.2.2.2.1, V.2.2.2.2.1, V.2.2.2.2.2.1, V.2.2.2.2.2.2)) 2 _ (cS cy (ad 1) V.2.1) rfl).2
          have hD : va_D A (wB cy ad (V.1, V.2.1, t, V.2.2.2.1, V.2.2.2.2.1, V.2.2.2.2.2.1, V.2.2.2.2.2.2)) := vD_perm hD (pmB (bB cy ad (V.1, V.2.1, t, V.2.2.2.1, V.2.2.2.2.1, V.2.2.2.2.2.1, V.2.2.2.2.2.2)) 2 _ (cS cy (ad 1) V.2.1) rfl).2
          refine lv_isub hx hb dX5_simulate_132 ?_
          refine lv_istore (lv' := [(7, .int ((r_X3_allClashes t) - (r_X3_allClashes V.2.1))), (0, .ref (ad 0 0 0)), (1, .long seed), (3, .int n), (4, .long x), (6, .int tk)]) hx hb dX5_simulate_133 hl (by decide) rfl (fun ls hl => ?_)
          refine lv_sipush (v := 1000) hx hb dX5_simulate_135 (by decide) ?_
          refine lv_aload_n hx hb dX5_simulate_138 rfl (lv_at hl 1 rfl) ?_
          refine va_get (D := D) (ci := 4) (v := .ref (ad 2 0 0)) (C := RX5) (T := TX5) (N := 6) hx hb hts inX5_simulate_X5 hown hK hP 0 rfl rfl 2 (by decide) (hts _ (List.mem_of_getElem? (i := 3) rfl)) (fun _ h9 => h9) rfl dX5_simulate_139 ?_
          refine va_get (D := D) (ci := 2) (v := .int (t.1 6 0)) (C := RX3) (T := TX3) (N := 11) hx hb hts inX5_simulate_X3 hown hK hP 28 rfl rfl 7 (by decide) (hts _ (List.mem_of_getElem? (i := 7) rfl)) (fun _ h9 => h9) rfl dX5_simulate_142 ?_
          refine lv_aload_n hx hb dX5_simulate_145 rfl (lv_at hl 1 rfl) ?_
          refine va_get (D := D) (ci := 4) (v := .ref (ad 1 0 0)) (C := RX5) (T := TX5) (N := 6) hx hb hts inX5_simulate_X5 hown hK hP 0 rfl rfl 1 (by decide) (hts _ (List.mem_of_getElem? (i := 4) rfl)) (fun _ h9 => h9) rfl dX5_simulate_146 ?_
          refine va_get (D := D) (ci := 2) (v := .int (V.2.1.1 6 0)) (C := RX3) (T := TX3) (N := 11) hx hb hts inX5_simulate_X3 hown hK hP 7 rfl rfl 7 (by decide) (hts _ (List.mem_of_getElem? (i := 7) rfl)) (fun _ h9 => h9) rfl dX5_simulate_149 ?_
          refine lv_isub hx hb dX5_simulate_152 ?_
          refine lv_imul hx hb dX5_simulate_153 ?_
          refine lv_iload hx hb dX5_simulate_154 (lv_at hl 0 rfl) ?_
          refine lv_sipush (v := 999) hx hb dX5_simulate_156 (by decide) ?_
          refine va_mmin hx hb (hml.trans hl.1.symm) hown (hts _ (List.mem_of_getElem? (i := 8) rfl)) (hts _ (List.mem_of_getElem? (i := 9) rfl)) (hts _ (List.mem_of_getElem? (i := 10) rfl)) (hts _ (List.mem_of_getElem? (i := 11) rfl)) (Nat.le_of_ble_eq_true rfl) (Nat.le_of_ble_eq_true rfl) (Nat.le_of_ble_eq_true rfl) (Nat.le_of_ble_eq_true rfl) dX5_simulate_159 ?_
          refine lv_iadd hx hb dX5_simulate_162 ?_
          refine W.widen (k := 1) (n := 6) (Nat.le_of_ble_eq_true rfl) (Nat.le_of_ble_eq_true rfl) ?_
          have hq7 : t = smR V.2.1 seed n := hq9
          have hr9 : o_X5_simulate V seed n = ((0 : Int32), (((1000 : Int32) * ((t.1 6 0) - (V.2.1.1 6 0))) + (if (999 : Int32) < ((r_X3_allClashes t) - (r_X3_allClashes V.2.1)) then (999 : Int32) else ((r_X3_allClashes t) - (r_X3_allClashes V.2.1))))) := by unfold o_X5_simulate; simp only [if_neg c_1, if_pos c_2, if_true, if_false]; rw [← hq7]; rfl
          have hw9 : w_X5_simulate V seed n = (V.1, V.2.1, t, V.2.2.2.1, V.2.2.2.2.1, V.2.2.2.2.2.1, V.2.2.2.2.2.2) := by unfold w_X5_simulate; simp only [if_neg c_1, if_pos c_2, if_true, if_false]; rw [← hq7]
          exact hret _ H locs _ ls hr9 (by rw [hw9]; exact hP) (by rw [hw9]; exact hD) hS dX5_simulate_163
        | succ k ih =>
          intro i x tk t hik ht hq9 H locs hP hD hS ls hl
          refine lv_iload hx hb dX5_simulate_42 (lv_at hl 5 rfl) ?_
          refine lv_iload_n hx hb dX5_simulate_44 rfl (lv_at hl 2 rfl) ?_
          refine lv_icmp_ge (tgt := 118) hx hb dX5_simulate_45 (by decide) (fun c_4 => absurd c_4 (lt_ofc (by omega) (by omega))) (fun c_4 => ?_)
          refine lv_lload hx hb dX5_simulate_48 (lv_at hl 3 rfl) ?_
          refine lv_ldc2 (v := (6364136223846793005)) hx hb hown (hts _ (List.mem_of_getElem? (i := 5) rfl)) dX5_simulate_50 ?_
          refine lv_lmul hx hb dX5_simulate_53 ?_
          refine lv_ldc2 (v := (1442695040888963407)) hx hb hown (hts _ (List.mem_of_getElem? (i := 6) rfl)) dX5_simulate_54 ?_
          refine lv_ladd hx hb dX5_simulate_57 ?_
          refine lv_lstore (lv' := [(4, .long ((x * (6364136223846793005 : Int64)) + (1442695040888963407 : Int64))), (0, .ref (ad 0 0 0)), (1, .long seed), (3, .int n), (6, .int tk), (7, .int (nI i))]) hx hb dX5_simulate_58 hl (by decide) rfl (fun ls hl => ?_)
          refine lv_lload hx hb dX5_simulate_60 (lv_at hl 0 rfl) ?_
          refine lv_bipush (v := 33) hx hb dX5_simulate_62 (by decide) ?_
          refine lv_lushr (v := (((x * (6364136223846793005 : Int64)) + (1442695040888963407 : Int64)).toUInt64 >>> ((33 : Int32).toInt64.toUInt64 &&& Int64.toUInt64 63)).toInt64) hx hb dX5_simulate_64 rfl ?_
          refine lv_l2i (v := (((x * (6364136223846793005 : Int64)) + (1442695040888963407 : Int64)).toUInt64 >>> ((33 : Int32).toInt64.toUInt64 &&& Int64.toUInt64 63)).toInt64.toInt32) hx hb dX5_simulate_65 rfl ?_
          refine lv_istore (lv' := [(8, .int (((x * (6364136223846793005 : Int64)) + (1442695040888963407 : Int64)).toUInt64 >>> ((33 : Int32).toInt64.toUInt64 &&& Int64.toUInt64 63)).toInt64.toInt32), (4, .long ((x * (6364136223846793005 : Int64)) + (1442695040888963407 : Int64))), (0, .ref (ad 0 0 0)), (1, .long seed), (3, .int n), (6, .int tk), (7, .int (nI i))]) hx hb dX5_simulate_66 hl (by decide) rfl (fun ls hl => ?_)
          refine lv_iload hx hb dX5_simulate_68 (lv_at hl 0 rfl) ?_
          refine lv_bipush (v := 8) hx hb dX5_simulate_70 (by decide) ?_
          refine lv_irem hx hb dX5_simulate_72 (by decide) ?_
          refine lv_istore (lv' := [(9, .int ((((x * (6364136223846793005 : Int64)) + (1442695040888963407 : Int64)).toUInt64 >>> ((33 : Int32).toInt64.toUInt64 &&& Int64.toUInt64 63)).toInt64.toInt32 - (((x * (6364136223846793005 : Int64)) + (1442695040888963407 : Int64)).toUInt64 >>> ((33 : Int32).toInt64.toUInt64 &&& Int64.toUInt64 63)).toInt64.toInt32 / (8 : Int32) * (8 : Int32))), (8, .int (((x * (6364136223846793005 : Int64)) + (1442695040888963407 : Int64)).toUInt64 >>> ((33 : Int32).toInt64.toUInt64 &&& Int64.toUInt64 63)).toInt64.toInt32), (4, .long ((x * (6364136223846793005 : Int64)) + (1442695040888963407 : Int64))), (0, .ref (ad 0 0 0)), (1, .long seed), (3, .int n), (6, .int tk), (7, .int (nI i))]) hx hb dX5_simulate_73 hl (by decide) rfl (fun ls hl => ?_)
          refine lv_iload hx hb dX5_simulate_75 (lv_at hl 1 rfl) ?_
          refine lv_bipush (v := 8) hx hb dX5_simulate_77 (by decide) ?_
          refine lv_idiv hx hb dX5_simulate_79 (by decide) ?_
          refine lv_bipush (v := 8) hx hb dX5_simulate_80 (by decide) ?_
          refine lv_irem hx hb dX5_simulate_82 (by decide) ?_
          refine lv_iload hx hb dX5_simulate_83 (lv_at hl 0 rfl) ?_
          have J98_6 : ∀ (z_6 : Int32) (hz_6 : z_6 = (if (((((x * (6364136223846793005 : Int64)) + (1442695040888963407 : Int64)).toUInt64 >>> ((33 : Int32).toInt64.toUInt64 &&& Int64.toUInt64 63)).toInt64.toInt32 / (8 : Int32)) - ((((x * (6364136223846793005 : Int64)) + (1442695040888963407 : Int64)).toUInt64 >>> ((33 : Int32).toInt64.toUInt64 &&& Int64.toUInt64 63)).toInt64.toInt32 / (8 : Int32)) / (8 : Int32) * (8 : Int32)) < ((((x * (6364136223846793005 : Int64)) + (1442695040888963407 : Int64)).toUInt64 >>> ((33 : Int32).toInt64.toUInt64 &&& Int64.toUInt64 63)).toInt64.toInt32 - (((x * (6364136223846793005 : Int64)) + (1442695040888963407 : Int64)).toUInt64 >>> ((33 : Int32).toInt64.toUInt64 &&& Int64.toUInt64 63)).toInt64.toInt32 / (8 : Int32) * (8 : Int32)) then (1 : Int32) else (if tk = 0 then (1 : Int32) else (0 : Int32)))) (H : Heap) (locs : List Loc), va_P D vwCl (wB cy ad (V.1, V.2.1, t, V.2.2.2.1, V.2.2.2.2.1, V.2.2.2.2.2.1, V.2.2.2.2.2.2)) H → va_D A (wB cy ad (V.1, V.2.1, t, V.2.2.2.1, V.2.2.2.2.1, V.2.2.2.2.2.1, V.2.2.2.2.2.2)) → va_S A s.heap H locs → ∀ ls : Array Slot, lv_has ls 10 [(0, .ref (ad 0 0 0)), (1, .long seed), (3, .int n), (4, .long ((x * (6364136223846793005 : Int64)) + (1442695040888963407 : Int64))), (6, .int tk), (7, .int (nI i)), (8, .int (((x * (6364136223846793005 : Int64)) + (1442695040888963407 : Int64)).toUInt64 >>> ((33 : Int32).toInt64.toUInt64 &&& Int64.toUInt64 63)).toInt64.toInt32), (9, .int ((((x * (6364136223846793005 : Int64)) + (1442695040888963407 : Int64)).toUInt64 >>> ((33 : Int32).toInt64.toUInt64 &&& Int64.toUInt64 63)).toInt64.toInt32 - (((x * (6364136223846793005 : Int64)) + (1442695040888963407 : Int64)).toUInt64 >>> ((33 : Int32).toInt64.toUInt64 &&& Int64.toUInt64 63)).toInt64.toInt32 / (8 : Int32) * (8 : Int32)))] → W pp l e rX5_simulate s m ([.ref (ad 0 0 0), .long seed, .int n] : List Value).toArray below meth c H locs 0 0 Q (F0 m 98 ls [.int z_6]) := by
            intro z_6 hz_6 H locs hP hD hS ls hl
            subst hz_6
            refine lv_istore (lv' := [(6, .int (if (((((x * (6364136223846793005 : Int64)) + (1442695040888963407 : Int64)).toUInt64 >>> ((33 : Int32).toInt64.toUInt64 &&& Int64.toUInt64 63)).toInt64.toInt32 / (8 : Int32)) - ((((x * (6364136223846793005 : Int64)) + (1442695040888963407 : Int64)).toUInt64 >>> ((33 : Int32).toInt64.toUInt64 &&& Int64.toUInt64 63)).toInt64.toInt32 / (8 : Int32)) / (8 : Int32) * (8 : Int32)) < ((((x * (6364136223846793005 : Int64)) + (1442695040888963407 : Int64)).toUInt64 >>> ((33 : Int32).toInt64.toUInt64 &&& Int64.toUInt64 63)).toInt64.toInt32 - (((x * (6364136223846793005 : Int64)) + (1442695040888963407 : Int64)).toUInt64 >>> ((33 : Int32).toInt64.toUInt64 &&& Int64.toUInt64 63)).toInt64.toInt32 / (8 : Int32) * (8 : Int32)) then (1 : Int32) else (if tk = 0 then (1 : Int32) else (0 : Int32)))), (0, .ref (ad 0 0 0)), (1, .long seed), (3, .int n), (4, .long ((x * (6364136223846793005 : Int64)) + (1442695040888963407 : Int64))), (7, .int (nI i)), (8, .int (((x * (6364136223846793005 : Int64)) + (1442695040888963407 : Int64)).toUInt64 >>> ((33 : Int32).toInt64.toUInt64 &&& Int64.toUInt64 63)).toInt64.toInt32), (9, .int ((((x * (6364136223846793005 : Int64)) + (1442695040888963407 : Int64)).toUInt64 >>> ((33 : Int32).toInt64.toUInt64 &&& Int64.toUInt64 63)).toInt64.toInt32 - (((x * (6364136223846793005 : Int64)) + (1442695040888963407 : Int64)).toUInt64 >>> ((33 : Int32).toInt64.toUInt64 &&& Int64.toUInt64 63)).toInt64.toInt32 / (8 : Int32) * (8 : Int32)))]) hx hb dX5_simulate_98 hl (by decide) rfl (fun ls hl => ?_)
            refine lv_aload_n hx hb dX5_simulate_100 rfl (lv_at hl 1 rfl) ?_
            refine va_get (D := D) (ci := 4) (v := .ref (ad 2 0 0)) (C := RX5) (T := TX5) (N := 6) hx hb hts inX5_simulate_X5 hown hK hP 0 rfl rfl 2 (by decide) (hts _ (List.mem_of_getElem? (i := 3) rfl)) (fun _ h9 => h9) rfl dX5_simulate_101 ?_
            refine lv_iload hx hb dX5_simulate_104 (lv_at hl 7 rfl) ?_
            refine lv_iload hx hb dX5_simulate_106 (lv_at hl 0 rfl) ?_
            refine cl_i (va_runV (As := [.int ((((x * (6364136223846793005 : Int64)) + (1442695040888963407 : Int64)).toUInt64 >>> ((33 : Int32).toInt64.toUInt64 &&& Int64.toUInt64 63)).toInt64.toInt32 - (((x * (6364136223846793005 : Int64)) + (1442695040888963407 : Int64)).toUInt64 >>> ((33 : Int32).toInt64.toUInt64 &&& Int64.toUInt64 63)).toInt64.toInt32 / (8 : Int32) * (8 : Int32)), .int (if (((((x * (6364136223846793005 : Int64)) + (1442695040888963407 : Int64)).toUInt64 >>> ((33 : Int32).toInt64.toUInt64 &&& Int64.toUInt64 63)).toInt64.toInt32 / (8 : Int32)) - ((((x * (6364136223846793005 : Int64)) + (1442695040888963407 : Int64)).toUInt64 >>> ((33 : Int32).toInt64.toUInt64 &&& Int64.toUInt64 63)).toInt64.toInt32 / (8 : Int32)) / (8 : Int32) * (8 : Int32)) < ((((x * (6364136223846793005 : Int64)) + (1442695040888963407 : Int64)).toUInt64 >>> ((33 : Int32).toInt64.toUInt64 &&& Int64.toUInt64 63)).toInt64.toInt32 - (((x * (6364136223846793005 : Int64)) + (1442695040888963407 : Int64)).toUInt64 >>> ((33 : Int32).toInt64.toUInt64 &&& Int64.toUInt64 63)).toInt64.toInt32 / (8 : Int32) * (8 : Int32)) then (1 : Int32) else (if tk = 0 then (1 : Int32) else (0 : Int32)))]) (rest := []) ⟨hx, hb, hml, hown, hts⟩ (c_X3_go l D cy (ad 2) t ((((x * (6364136223846793005 : Int64)) + (1442695040888963407 : Int64)).toUInt64 >>> ((33 : Int32).toInt64.toUInt64 &&& Int64.toUInt64 63)).toInt64.toInt32 - (((x * (6364136223846793005 : Int64)) + (1442695040888963407 : Int64)).toUInt64 >>> ((33 : Int32).toInt64.toUInt64 &&& Int64.toUInt64 63)).toInt64.toInt32 / (8 : Int32) * (8 : Int32)) (if (((((x * (6364136223846793005 : Int64)) + (1442695040888963407 : Int64)).toUInt64 >>> ((33 : Int32).toInt64.toUInt64 &&& Int64.toUInt64 63)).toInt64.toInt32 / (8 : Int32)) - ((((x * (6364136223846793005 : Int64)) + (1442695040888963407 : Int64)).toUInt64 >>> ((33 : Int32).toInt64.toUInt64 &&& Int64.toUInt64 63)).toInt64.toInt32 / (8 : Int32)) / (8 : Int32) * (8 : Int32)) < ((((x * (6364136223846793005 : Int64)) + (1442695040888963407 : Int64)).toUInt64 >>> ((33 : Int32).toInt64.toUInt64 &&& Int64.toUInt64 63)).toInt64.toInt32 - (((x * (6364136223846793005 : Int64)) + (1442695040888963407 : Int64)).toUInt64 >>> ((33 : Int32).toInt64.toUInt64 &&& Int64.toUInt64 63)).toInt64.toInt32 / (8 : Int32) * (8 : Int32)) then (1 : Int32) else (if tk = 0 then (1 : Int32) else (0 : Int32))) H.size (sim_in _) (show szok (t.1 0 0) from by rw [ht]; exact hsz2)) (cwV 2 hts gX5_simulate_X3_go rfl rfl rfl (by decide +kernel) ⟨Nat.le_of_ble_eq_true rfl, Nat.le_of_ble_eq_true rfl⟩) ⟨blU, va_recv hK hP (ci := 2) (q0 := 28) rfl rfl, preU hP hD (pmB (bB cy ad (V.1, V.2.1, t, V.2.2.2.1, V.2.2.2.2.1, V.2.2.2.2.2.1, V.2.2.2.2.2.2)) 3 _ (cS cy (ad 2) (w_X3_go t ((((x * (6364136223846793005 : Int64)) + (1442695040888963407 : Int64)).toUInt64 >>> ((33 : Int32).toInt64.toUInt64 &&& Int64.toUInt64 63)).toInt64.toInt32 - (((x * (6364136223846793005 : Int64)) + (1442695040888963407 : Int64)).toUInt64 >>> ((33 : Int32).toInt64.toUInt64 &&& Int64.toUInt64 63)).toInt64.toInt32 / (8 : Int32) * (8 : Int32)) (if (((((x * (6364136223846793005 : Int64)) + (1442695040888963407 : Int64)).toUInt64 >>> ((33 : Int32).toInt64.toUInt64 &&& Int64.toUInt64 63)).toInt64.toInt32 / (8 : Int32)) - ((((x * (6364136223846793005 : Int64)) + (1442695040888963407 : Int64)).toUInt64 >>> ((33 : Int32).toInt64.toUInt64 &&& Int64.toUInt64 63)).toInt64.toInt32 / (8 : Int32)) / (8 : Int32) * (8 : Int32)) < ((((x * (6364136223846793005 : Int64)) + (1442695040888963407 : Int64)).toUInt64 >>> ((33 : Int32).toInt64.toUInt64 &&& Int64.toUInt64 63)).toInt64.toInt32 - (((x * (6364136223846793005 : Int64)) + (1442695040888963407 : Int64)).toUInt64 >>> ((33 : Int32).toInt64.toUInt64 &&& Int64.toUInt64 63)).toInt64.toInt32 / (8 : Int32) * (8 : Int32)) then (1 : Int32) else (if tk = 0 then (1 : Int32) else (0 : Int32))))) rfl).1 hK hE hS hA⟩ rfl rfl hl.1 rfl (lv_room (Nat.le_of_ble_eq_true rfl)) dX5_simulate_108 ⟨Nat.le_of_ble_eq_true rfl, Nat.le_of_ble_eq_true rfl⟩) hP hD (pmB (bB cy ad (V.1, V.2.1, t, V.2.2.2.1, V.2.2.2.2.1, V.2.2.2.2.2.1, V.2.2.2.2.2.2)) 3 _ (cS cy (ad 2) (w_X3_go t ((((x * (6364136223846793005 : Int64)) + (1442695040888963407 : Int64)).toUInt64 >>> ((33 : Int32).toInt64.toUInt64 &&& Int64.toUInt64 63)).toInt64.toInt32 - (((x * (6364136223846793005 : Int64)) + (1442695040888963407 : Int64)).toUInt64 >>> ((33 : Int32).toInt64.toUInt64 &&& Int64.toUInt64 63)).toInt64.toInt32 / (8 : Int32) * (8 : Int32)) (if (((((x * (6364136223846793005 : Int64)) + (1442695040888963407 : Int64)).toUInt64 >>> ((33 : Int32).toInt64.toUInt64 &&& Int64.toUInt64 63)).toInt64.toInt32 / (8 : Int32)) - ((((x * (6364136223846793005 : Int64)) + (1442695040888963407 : Int64)).toUInt64 >>> ((33 : Int32).toInt64.toUInt64 &&& Int64.toUInt64 63)).toInt64.toInt32 / (8 : Int32)) / (8 : Int32) * (8 : Int32)) < ((((x * (6364136223846793005 : Int64)) + (1442695040888963407 : Int64)).toUInt64 >>> ((33 : Int32).toInt64.toUInt64 &&& Int64.toUInt64 63)).toInt64.toInt32 - (((x * (6364136223846793005 : Int64)) + (1442695040888963407 : Int64)).toUInt64 >>> ((33 : Int32).toInt64.toUInt64 &&& Int64.toUInt64 63)).toInt64.toInt32 / (8 : Int32) * (8 : Int32)) then (1 : Int32) else (if tk = 0 then (1 : Int32) else (0 : Int32))))) rfl).1 hS hA (fun H locs hP hD hS => ?_)
            have hP : va_P D vwCl (wB cy ad (V.1, V.2.1, (w_X3_go t ((((x * (6364136223846793005 : Int64)) + (1442695040888963407 : Int64)).toUInt64 >>> ((33 : Int32).toInt64.toUInt64 &&& Int64.toUInt64 63)).toInt64.toInt32 - (((x * (6364136223846793005 : Int64)) + (1442695040888963407 : Int64)).toUInt64 >>> ((33 : Int32).toInt64.toUInt64 &&& Int64.toUInt64 63)).toInt64.toInt32 / (8 : Int32) * (8 : Int32)) (if (((((x * (6364136223846793005 : Int64)) + (1442695040888963407 : Int64)).toUInt64 >>> ((33 : Int32).toInt64.toUInt64 &&& Int64.toUInt64 63)).toInt64.toInt32 / (8 : Int32)) - ((((x * (6364136223846793005 : Int64)) + (1442695040888963407 : Int64)).toUInt64 >>> ((33 : Int32).toInt64.toUInt64 &&& Int64.toUInt64 63)).toInt64.toInt32 / (8 : Int32)) / (8 : Int32) * (8 : Int32)) < ((((x * (6364136223846793005 : Int64)) + (1442695040888963407 : Int64)).toUInt64 >>> ((33 : Int32).toInt64.toUInt64 &&& Int64.toUInt64 63)).toInt64.toInt32 - (((x * (6364136223846793005 : Int64)) + (1442695040888963407 : Int64)).toUInt64 >>> ((33 : Int32).toInt64.toUInt64 &&& Int64.toUInt64 63)).toInt64.toInt32 / (8 : Int32) * (8 : Int32)) then (1 : Int32) else (if tk = 0 then (1 : Int32) else (0 : Int32)))), V.2.2.2.1, V.2.2.2.2.1, V.2.2.2.2.2.1, V.2.2.2.2.2.2)) H := vP_perm hP (pmB (bB cy ad (V.1, V.2.1, t, V.2.2.2.1, V.2.2.2.2.1, V.2.2.2.2.2.1, V.2.2.2.2.2.2)) 3 _ (cS cy (ad 2) (w_X3_go t ((((x * (6364136223846793005 : Int64)) + (1442695040888963407 : Int64)).toUInt64 >>> ((33 : Int32).toInt64.toUInt64 &&& Int64.toUInt64 63)).toInt64.toInt32 - (((x * (6364136223846793005 : Int64)) + (1442695040888963407 : Int64)).toUInt64 >>> ((33 : Int32).toInt64.toUInt64 &&& Int64.toUInt64 63)).toInt64.toInt32 / (8 : Int32) * (8 : Int32)) (if (((((x * (6364136223846793005 : Int64)) + (1442695040888963407 : Int64)).toUInt64 >>> ((33 : Int32).toInt64.toUInt64 &&& Int64.toUInt64 63)).toInt64.toInt32 / (8 : Int32)) - ((((x * (6364136223846793005 : Int64)) + (1442695040888963407 : Int64)).toUInt64 >>> ((33 : Int32).toInt64.toUInt64 &&& Int64.toUInt64 63)).toInt64.toInt32 / (8 : Int32)) / (8 : Int32) * (8 : Int32)) < ((((x * (6364136223846793005 : Int64)) + (1442695040888963407 : Int64)).toUInt64 >>> ((33 : Int32).toInt64.toUInt64 &&& Int64.toUInt64 63)).toInt64.toInt32 - (((x * (6364136223846793005 : Int64)) + (1442695040888963407 : Int64)).toUInt64 >>> ((33 : Int32).toInt64.toUInt64 &&& Int64.toUInt64 63)).toInt64.toInt32 / (8 : Int32) * (8 : Int32)) then (1 : Int32) else (if tk = 0 then (1 : Int32) else (0 : Int32))))) rfl).2
            have hD : va_D A (wB cy ad (V.1, V.2.1, (w_X3_go t ((((x * (6364136223846793005 : Int64)) + (1442695040888963407 : Int64)).toUInt64 >>> ((33 : Int32).toInt64.toUInt64 &&& Int64.toUInt64 63)).toInt64.toInt32 - (((x * (6364136223846793005 : Int64)) + (1442695040888963407 : Int64)).toUInt64 >>> ((33 : Int32).toInt64.toUInt64 &&& Int64.toUInt64 63)).toInt64.toInt32 / (8 : Int32) * (8 : Int32)) (if (((((x * (6364136223846793005 : Int64)) + (1442695040888963407 : Int64)).toUInt64 >>> ((33 : Int32).toInt64.toUInt64 &&& Int64.toUInt64 63)).toInt64.toInt32 / (8 : Int32)) - ((((x * (6364136223846793005 : Int64)) + (1442695040888963407 : Int64)).toUInt64 >>> ((33 : Int32).toInt64.toUInt64 &&& Int64.toUInt64 63)).toInt64.toInt32 / (8 : Int32)) / (8 : Int32) * (8 : Int32)) < ((((x * (6364136223846793005 : Int64)) + (1442695040888963407 : Int64)).toUInt64 >>> ((33 : Int32).toInt64.toUInt64 &&& Int64.toUInt64 63)).toInt64.toInt32 - (((x * (6364136223846793005 : Int64)) + (1442695040888963407 : Int64)).toUInt64 >>> ((33 : Int32).toInt64.toUInt64 &&& Int64.toUInt64 63)).toInt64.toInt32 / (8 : Int32) * (8 : Int32)) then (1 : Int32) else (if tk = 0 then (1 : Int32) else (0 : Int32)))), V.2.2.2.1, V.2.2.2.2.1, V.2.2.2.2.2.1, V.2.2.2.2.2.2)) := vD_perm hD (pmB (bB cy ad (V.1, V.2.1, t, V.2.2.2.1, V.2.2.2.2.1, V.2.2.2.2.2.1, V.2.2.2.2.2.2)) 3 _ (cS cy (ad 2) (w_X3_go t ((((x * (6364136223846793005 : Int64)) + (1442695040888963407 : Int64)).toUInt64 >>> ((33 : Int32).toInt64.toUInt64 &&& Int64.toUInt64 63)).toInt64.toInt32 - (((x * (6364136223846793005 : Int64)) + (1442695040888963407 : Int64)).toUInt64 >>> ((33 : Int32).toInt64.toUInt64 &&& Int64.toUInt64 63)).toInt64.toInt32 / (8 : Int32) * (8 : Int32)) (if (((((x * (6364136223846793005 : Int64)) + (1442695040888963407 : Int64)).toUInt64 >>> ((33 : Int32).toInt64.toUInt64 &&& Int64.toUInt64 63)).toInt64.toInt32 / (8 : Int32)) - ((((x * (6364136223846793005 : Int64)) + (1442695040888963407 : Int64)).toUInt64 >>> ((33 : Int32).toInt64.toUInt64 &&& Int64.toUInt64 63)).toInt64.toInt32 / (8 : Int32)) / (8 : Int32) * (8 : Int32)) < ((((x * (6364136223846793005 : Int64)) + (1442695040888963407 : Int64)).toUInt64 >>> ((33 : Int32).toInt64.toUInt64 &&& Int64.toUInt64 63)).toInt64.toInt32 - (((x * (6364136223846793005 : Int64)) + (1442695040888963407 : Int64)).toUInt64 >>> ((33 : Int32).toInt64.toUInt64 &&& Int64.toUInt64 63)).toInt64.toInt32 / (8 : Int32) * (8 : Int32)) then (1 : Int32) else (if tk = 0 then (1 : Int32) else (0 : Int32))))) rfl).2
            refine lv_pop hx hb dX5_simulate_111 rfl ?_
            refine lv_iinc (v := (nI (i + 1))) (lv' := [(7, .int (nI (i + 1))), (6, .int (if (((((x * (6364136223846793005 : Int64)) + (1442695040888963407 : Int64)).toUInt64 >>> ((33 : Int32).toInt64.toUInt64 &&& Int64.toUInt64 63)).toInt64.toInt32 / (8 : Int32)) - ((((x * (6364136223846793005 : Int64)) + (1442695040888963407 : Int64)).toUInt64 >>> ((33 : Int32).toInt64.toUInt64 &&& Int64.toUInt64 63)).toInt64.toInt32 / (8 : Int32)) / (8 : Int32) * (8 : Int32)) < ((((x * (6364136223846793005 : Int64)) + (1442695040888963407 : Int64)).toUInt64 >>> ((33 : Int32).toInt64.toUInt64 &&& Int64.toUInt64 63)).toInt64.toInt32 - (((x * (6364136223846793005 : Int64)) + (1442695040888963407 : Int64)).toUInt64 >>> ((33 : Int32).toInt64.toUInt64 &&& Int64.toUInt64 63)).toInt64.toInt32 / (8 : Int32) * (8 : Int32)) then (1 : Int32) else (if tk = 0 then (1 : Int32) else (0 : Int32)))), (0, .ref (ad 0 0 0)), (1, .long seed), (3, .int n), (4, .long ((x * (6364136223846793005 : Int64)) + (1442695040888963407 : Int64))), (8, .int (((x * (6364136223846793005 : Int64)) + (1442695040888963407 : Int64)).toUInt64 >>> ((33 : Int32).toInt64.toUInt64 &&& Int64.toUInt64 63)).toInt64.toInt32), (9, .int ((((x * (6364136223846793005 : Int64)) + (1442695040888963407 : Int64)).toUInt64 >>> ((33 : Int32).toInt64.toUInt64 &&& Int64.toUInt64 63)).toInt64.toInt32 - (((x * (6364136223846793005 : Int64)) + (1442695040888963407 : Int64)).toUInt64 >>> ((33 : Int32).toInt64.toUInt64 &&& Int64.toUInt64 63)).toInt64.toInt32 / (8 : Int32) * (8 : Int32)))]) hx hb dX5_simulate_112 hl (k := 5) rfl (nI_1 i) (by decide) rfl (fun ls hl => ?_)
            refine lv_goto (tgt := 42) hx hb dX5_simulate_115 (by decide) ?_
            exact ih (i + 1) _ _ _ (by omega) (by rw [go_set]; exact ht) hq9 H locs hP hD hS ls (lv_sub hl [2, 3, 4, 5, 1, 0] rfl)
          refine lv_icmp_lt (tgt := 93) hx hb dX5_simulate_85 (by decide) (fun c_5 => ?_) (fun c_5 => ?_)
          · refine lv_iconst (v := 1) hx hb dX5_simulate_93 (by decide) ?_
            refine lv_goto (tgt := 98) hx hb dX5_simulate_94 (by decide) ?_
            exact J98_6 (1 : Int32) (by simp only [if_pos c_5, if_true, if_false]) H locs hP hD hS ls (lv_sub hl [3, 4, 5, 2, 6, 7, 1, 0] rfl)
          · refine lv_iload hx hb dX5_simulate_88 (lv_at hl 6 rfl) ?_
            refine lv_if_ne (tgt := 97) hx hb dX5_simulate_90 (by decide) (fun c_8 => ?_) (fun c_8 => ?_)
            · refine lv_iconst (v := 0) hx hb dX5_simulate_97 (by decide) ?_
              exact J98_6 (0 : Int32) (by simp only [if_neg c_5, if_neg c_8, if_true, if_false]) H locs hP hD hS ls (lv_sub hl [3, 4, 5, 2, 6, 7, 1, 0] rfl)
            · refine lv_iconst (v := 1) hx hb dX5_simulate_93 (by decide) ?_
              refine lv_goto (tgt := 98) hx hb dX5_simulate_94 (by decide) ?_
              exact J98_6 (1 : Int32) (by simp only [if_neg c_5, if_pos c_8, if_true, if_false]) H locs hP hD hS ls (lv_sub hl [3, 4, 5, 2, 6, 7, 1, 0] rfl)
      exact hloop _ 0 seed 0 V.2.1 (Nat.zero_add _) rfl rfl H locs hP hD hS ls (lv_sub hl [3, 4, 5, 2, 1, 0] rfl)
    · have ho9 : (o_X5_simulate V seed n).1 = (-9999002 : Int32) := by unfold o_X5_simulate; simp only [if_neg c_1, if_neg c_2, if_true, if_false]
      have hw9 : (w_X5_simulate V seed n) = V := by unfold w_X5_simulate; simp only [if_neg c_1, if_neg c_2, if_true, if_false]
      rw [hQ]
      exact thr_2 (text := "no such number of branches") hx hb hlt hown (hts _ (List.mem_of_getElem? (i := 1) rfl)) (hts _ (List.mem_of_getElem? (i := 2) rfl)) (fun w hw => hts w (List.mem_cons_of_mem _ (List.mem_append_right _ hw))) (by decide +kernel) hE hS (hl.1.trans hml.symm) dX5_simulate_12 dX5_simulate_15 dX5_simulate_16 dX5_simulate_18 dX5_simulate_21 htab (Nat.le_of_ble_eq_true rfl) (Nat.le_of_ble_eq_true rfl) (Nat.le_of_ble_eq_true rfl) (Nat.le_of_ble_eq_true rfl) hlocks hAe ho9 (by rw [hw9]; exact hP) (by rw [hw9]; exact hD) (Nat.le_of_ble_eq_true rfl) (Nat.le_of_ble_eq_true rfl)

