/-! ===== quotientBits, withoutLastGroups, share ===== -/
theorem tnc_lt (x : Int32) : x.toNatClampNeg < 2 ^ 31 := by
  have h1 := tncn x
  have h2 : x.toInt < 2147483648 := Int32.toInt_lt x
  omega
/-- the doubling of the scaled part: n steps at most -/
def qb (wl : Int64) : Nat → Int64 → Int32 → Int64 × Int32
  | 0, sc, ex => (sc, ex)
  | n + 1, sc, ex => if 0 ≤ lg_cmp sc wl then (sc, ex) else qb wl n (sc * 2) (ex + (-1))
def qres (wh : Int32) (s : Int64 × Int32) : Int32 := (((((s.1 <<< (((24 : Int32)).toInt64 &&& 63)) + wh.toInt64) / ((2 : Int64) * wh.toInt64)) + ((s.2 - (1 : Int32)).toInt64 <<< (((23 : Int32)).toInt64 &&& 63)))).toInt32
def r_X5_quotientBits (pt wh : Int32) : Int32 := if pt ≤ 0 then 0 else if 0 < wh then qres wh (qb wh.toInt64 32 pt.toInt64 127) else 0
theorem q_ne {wh : Int32} (h : 0 < wh) : ¬ (2 : Int64) * wh.toInt64 = 0 := by
  intro q
  have h1 : 0 < wh.toInt := (fa_lt' 0 wh).mp h
  have h2 : wh.toInt < 2147483648 := Int32.toInt_lt wh
  have h3 : ((2 : Int64) * wh.toInt64).toInt = 0 := by rw [q]; rfl
  rw [Int64.toInt_mul, Int32.toInt_toInt64] at h3
  have h4 : (2 : Int64).toInt = 2 := rfl
  rw [h4, Int.bmod_eq_of_le (by omega) (by omega)] at h3
  omega

abbrev rX5_quotientBits : Room := { frames := 0, cells := 0, slots := 0, locals := 0 }
set_option maxHeartbeats 4000000 in
set_option maxRecDepth 100000 in
theorem c_X5_quotientBits (l : Launch) (D : va_G) (cy : Nat → ClassId)  (pt : Int32) (wh : Int32) (sz : Nat)  : CI l yX5_quotientBits wsX5_quotientBits rX5_quotientBits D cy [.int pt, .int wh] [] sz (r_X5_quotientBits pt wh) [] 0 0 := by
  refine st_i (ty := .int) (cc := cX5_quotientBits) (maxL := 7) (by decide) rfl rfl (Nat.le_of_ble_eq_true rfl) ?_
  intro pp e s m below meth c A Q ls hx hb hts hown hml hlocks hsz hP hK hD hE hA hl hret
  subst hsz
  have hown : s.vm.findClass RX5 = some m.cls := hown
  have hl : lv_has ls 7 [(0, .int pt), (1, .int wh)] := hl
  obtain ⟨H, hH⟩ : ∃ H, H = s.heap := ⟨_, rfl⟩
  rw [← hH] at hP ⊢
  have hS : va_S A s.heap H [] := by rw [hH]; exact va_S.rf
  obtain ⟨locs, hlo⟩ : ∃ locs : List Loc, locs = [] := ⟨_, rfl⟩
  rw [← hlo] at hS ⊢
  refine lv_iload_n hx hb dX5_quotientBits_0 rfl (lv_at hl 0 rfl) ?_
  refine lv_if_le (tgt := 8) hx hb dX5_quotientBits_1 (by decide) (fun c_1 => ?_) (fun c_1 => ?_)
  · refine lv_iconst (v := 0) hx hb dX5_quotientBits_8 (by decide) ?_
    have hr9 : (0 : Int32) = r_X5_quotientBits pt wh := by unfold r_X5_quotientBits; simp only [if_pos c_1, if_true, if_false]
    exact hret _ H locs _ ls hr9 hP hD hS dX5_quotientBits_9
  · refine lv_iload_n hx hb dX5_quotientBits_4 rfl (lv_at hl 1 rfl) ?_
    refine lv_if_gt (tgt := 10) hx hb dX5_quotientBits_5 (by decide) (fun c_2 => ?_) (fun c_2 => ?_)
    · refine lv_iload_n hx hb dX5_quotientBits_10 rfl (lv_at hl 0 rfl) ?_
      refine lv_i2l (v := pt.toInt64) hx hb dX5_quotientBits_11 rfl ?_
      refine lv_lstore_n (lv' := [(2, .long pt.toInt64), (0, .int pt), (1, .int wh)]) hx hb dX5_quotientBits_12 rfl hl (by decide) rfl (fun ls hl => ?_)
      refine lv_bipush (v := 127) hx hb dX5_quotientBits_13 (by decide) ?_
      refine lv_istore (lv' := [(4, .int (127 : Int32)), (2, .long pt.toInt64), (0, .int pt), (1, .int wh)]) hx hb dX5_quotientBits_15 hl (by decide) rfl (fun ls hl => ?_)
      refine lv_iconst (v := 0) hx hb dX5_quotientBits_17 (by decide) ?_
      refine lv_istore (lv' := [(5, .int (0 : Int32)), (4, .int (127 : Int32)), (2, .long pt.toInt64), (0, .int pt), (1, .int wh)]) hx hb dX5_quotientBits_18 hl (by decide) rfl (fun ls hl => ?_)
      have hp0 : ¬ pt ≤ 0 := c_1
      have hw0 : 0 < wh := c_2
      have hloop : ∀ (k i : Nat) (sc : Int64) (ex : Int32), i + k = 32 → qb wh.toInt64 k sc ex = qb wh.toInt64 32 pt.toInt64 127 → ∀ ls : Array Slot, lv_has ls 7 [(0, .int pt), (1, .int wh), (2, .long sc), (4, .int ex), (5, .int (nI i))] → W pp l e rX5_quotientBits s m ([.int pt, .int wh] : List Value).toArray below meth c H locs 0 0 Q (F0 m 20 ls []) := by
        intro k
        induction k with
        | zero =>
          intro i sc ex hik hq9 ls hl
          have hi : i = 32 := by omega
          have hq9 : (sc, ex) = qb wh.toInt64 32 pt.toInt64 127 := hq9
          refine lv_iload hx hb dX5_quotientBits_20 (lv_at hl 4 rfl) ?_
          refine lv_bipush (v := 32) hx hb dX5_quotientBits_22 (by decide) ?_
          refine lv_icmp_ge (tgt := 49) hx hb dX5_quotientBits_24 (by decide) (fun c_3 => ?_) (fun c_3 => absurd (show (32 : Int32) ≤ nI i from by rw [hi]; exact Int32.le_refl _) c_3)
          refine lv_lload_n hx hb dX5_quotientBits_49 rfl (lv_at hl 2 rfl) ?_
          refine lv_bipush (v := 24) hx hb dX5_quotientBits_50 (by decide) ?_
          refine lv_lshl (v := (sc <<< ((24 : Int32).toInt64 &&& 63))) hx hb dX5_quotientBits_52 rfl ?_
          refine lv_iload_n hx hb dX5_quotientBits_53 rfl (lv_at hl 1 rfl) ?_
          refine lv_i2l (v := wh.toInt64) hx hb dX5_quotientBits_54 rfl ?_
          refine lv_ladd hx hb dX5_quotientBits_55 ?_
          refine lv_ldc2 (v := (2)) hx hb hown (hts _ (List.mem_of_getElem? (i := 1) rfl)) dX5_quotientBits_56 ?_
          refine lv_iload_n hx hb dX5_quotientBits_59 rfl (lv_at hl 1 rfl) ?_
          refine lv_i2l (v := wh.toInt64) hx hb dX5_quotientBits_60 rfl ?_
          refine lv_lmul hx hb dX5_quotientBits_61 ?_
          refine lv_ldiv hx hb dX5_quotientBits_62 (q_ne hw0) ?_
          refine lv_lstore (lv' := [(5, .long (((sc <<< ((24 : Int32).toInt64 &&& 63)) + wh.toInt64) / ((2 : Int64) * wh.toInt64))), (0, .int pt), (1, .int wh), (2, .long sc), (4, .int ex)]) hx hb dX5_quotientBits_63 hl (by decide) rfl (fun ls hl => ?_)
          refine lv_lload hx hb dX5_quotientBits_65 (lv_at hl 0 rfl) ?_
          refine lv_iload hx hb dX5_quotientBits_67 (lv_at hl 4 rfl) ?_
          refine lv_iconst (v := 1) hx hb dX5_quotientBits_69 (by decide) ?_
          refine lv_isub hx hb dX5_quotientBits_70 ?_
          refine lv_i2l (v := (ex - (1 : Int32)).toInt64) hx hb dX5_quotientBits_71 rfl ?_
          refine lv_bipush (v := 23) hx hb dX5_quotientBits_72 (by decide) ?_
          refine lv_lshl (v := ((ex - (1 : Int32)).toInt64 <<< ((23 : Int32).toInt64 &&& 63))) hx hb dX5_quotientBits_74 rfl ?_
          refine lv_ladd hx hb dX5_quotientBits_75 ?_
          refine lv_l2i (v := ((((sc <<< ((24 : Int32).toInt64 &&& 63)) + wh.toInt64) / ((2 : Int64) * wh.toInt64)) + ((ex - (1 : Int32)).toInt64 <<< ((23 : Int32).toInt64 &&& 63))).toInt32) hx hb dX5_quotientBits_76 rfl ?_
          have hr9 : ((((sc <<< ((24 : Int32).toInt64 &&& 63)) + wh.toInt64) / ((2 : Int64) * wh.toInt64)) + ((ex - (1 : Int32)).toInt64 <<< ((23 : Int32).toInt64 &&& 63))).toInt32 = r_X5_quotientBits pt wh := by
            unfold r_X5_quotientBits
            rw [if_neg hp0, if_pos hw0, ← hq9]
            rfl
          exact hret _ H locs _ ls hr9 hP hD hS dX5_quotientBits_77
        | succ k ih =>
          intro i sc ex hik hq9 ls hl
          refine lv_iload hx hb dX5_quotientBits_20 (lv_at hl 4 rfl) ?_
          refine lv_bipush (v := 32) hx hb dX5_quotientBits_22 (by decide) ?_
          refine lv_icmp_ge (tgt := 49) hx hb dX5_quotientBits_24 (by decide) (fun c_4 => absurd c_4 (nI_ge (a := i) (b := 32) (by omega) (by decide))) (fun c_4 => ?_)
          refine lv_lload_n hx hb dX5_quotientBits_27 rfl (lv_at hl 2 rfl) ?_
          refine lv_iload_n hx hb dX5_quotientBits_28 rfl (lv_at hl 1 rfl) ?_
          refine lv_i2l (v := wh.toInt64) hx hb dX5_quotientBits_29 rfl ?_
          refine W.lcmp hx hb dX5_quotientBits_30 ?_
          refine lv_if_ge (tgt := 49) hx hb dX5_quotientBits_31 (by decide) (fun c_5 => ?_) (fun c_5 => ?_)
          · have hq9 : (sc, ex) = qb wh.toInt64 32 pt.toInt64 127 := (if_pos c_5).symm.trans hq9
            refine lv_lload_n hx hb dX5_quotientBits_49 rfl (lv_at hl 2 rfl) ?_
            refine lv_bipush (v := 24) hx hb dX5_quotientBits_50 (by decide) ?_
            refine lv_lshl (v := (sc <<< ((24 : Int32).toInt64 &&& 63))) hx hb dX5_quotientBits_52 rfl ?_
            refine lv_iload_n hx hb dX5_quotientBits_53 rfl (lv_at hl 1 rfl) ?_
            refine lv_i2l (v := wh.toInt64) hx hb dX5_quotientBits_54 rfl ?_
            refine lv_ladd hx hb dX5_quotientBits_55 ?_
            refine lv_ldc2 (v := (2)) hx hb hown (hts _ (List.mem_of_getElem? (i := 1) rfl)) dX5_quotientBits_56 ?_
            refine lv_iload_n hx hb dX5_quotientBits_59 rfl (lv_at hl 1 rfl) ?_
            refine lv_i2l (v := wh.toInt64) hx hb dX5_quotientBits_60 rfl ?_
            refine lv_lmul hx hb dX5_quotientBits_61 ?_
            refine lv_ldiv hx hb dX5_quotientBits_62 (q_ne hw0) ?_
            refine lv_lstore (lv' := [(5, .long (((sc <<< ((24 : Int32).toInt64 &&& 63)) + wh.toInt64) / ((2 : Int64) * wh.toInt64))), (0, .int pt), (1, .int wh), (2, .long sc), (4, .int ex)]) hx hb dX5_quotientBits_63 hl (by decide) rfl (fun ls hl => ?_)
            refine lv_lload hx hb dX5_quotientBits_65 (lv_at hl 0 rfl) ?_
            refine lv_iload hx hb dX5_quotientBits_67 (lv_at hl 4 rfl) ?_
            refine lv_iconst (v := 1) hx hb dX5_quotientBits_69 (by decide) ?_
            refine lv_isub hx hb dX5_quotientBits_70 ?_
            refine lv_i2l (v := (ex - (1 : Int32)).toInt64) hx hb dX5_quotientBits_71 rfl ?_
            refine lv_bipush (v := 23) hx hb dX5_quotientBits_72 (by decide) ?_
            refine lv_lshl (v := ((ex - (1 : Int32)).toInt64 <<< ((23 : Int32).toInt64 &&& 63))) hx hb dX5_quotientBits_74 rfl ?_
            refine lv_ladd hx hb dX5_quotientBits_75 ?_
            refine lv_l2i (v := ((((sc <<< ((24 : Int32).toInt64 &&& 63)) + wh.toInt64) / ((2 : Int64) * wh.toInt64)) + ((ex - (1 : Int32)).toInt64 <<< ((23 : Int32).toInt64 &&& 63))).toInt32) hx hb dX5_quotientBits_76 rfl ?_
            have hr9 : ((((sc <<< ((24 : Int32).toInt64 &&& 63)) + wh.toInt64) / ((2 : Int64) * wh.toInt64)) + ((ex - (1 : Int32)).toInt64 <<< ((23 : Int32).toInt64 &&& 63))).toInt32 = r_X5_quotientBits pt wh := by
              unfold r_X5_quotientBits
              rw [if_neg hp0, if_pos hw0, ← hq9]
              rfl
            exact hret _ H locs _ ls hr9 hP hD hS dX5_quotientBits_77
          · refine lv_lload_n hx hb dX5_quotientBits_34 rfl (lv_at hl 2 rfl) ?_
            refine lv_ldc2 (v := (2)) hx hb hown (hts _ (List.mem_of_getElem? (i := 1) rfl)) dX5_quotientBits_35 ?_
            refine lv_lmul hx hb dX5_quotientBits_38 ?_
            refine lv_lstore_n (lv' := [(2, .long (sc * (2 : Int64))), (0, .int pt), (1, .int wh), (4, .int ex), (5, .int (nI i))]) hx hb dX5_quotientBits_39 rfl hl (by decide) rfl (fun ls hl => ?_)
            refine lv_iinc (v := (ex + (-1 : Int32))) (lv' := [(4, .int (ex + (-1 : Int32))), (2, .long (sc * (2 : Int64))), (0, .int pt), (1, .int wh), (5, .int (nI i))]) hx hb dX5_quotientBits_40 hl (k := 3) rfl rfl (by decide) rfl (fun ls hl => ?_)
            refine lv_iinc (v := (nI (i + 1))) (lv' := [(5, .int (nI (i + 1))), (4, .int (ex + (-1 : Int32))), (2, .long (sc * (2 : Int64))), (0, .int pt), (1, .int wh)]) hx hb dX5_quotientBits_43 hl (k := 4) rfl (nI_1 i) (by decide) rfl (fun ls hl => ?_)
            refine lv_goto (tgt := 20) hx hb dX5_quotientBits_46 (by decide) ?_
            exact ih (i + 1) _ _ (by omega) ((if_neg c_5).symm.trans hq9) ls (lv_sub hl [3, 4, 2, 1, 0] rfl)
      exact hloop 32 0 _ _ rfl rfl ls (lv_sub hl [3, 4, 2, 1, 0] rfl)
    · refine lv_iconst (v := 0) hx hb dX5_quotientBits_8 (by decide) ?_
      have hr9 : (0 : Int32) = r_X5_quotientBits pt wh := by unfold r_X5_quotientBits; simp only [if_neg c_1, if_neg c_2, if_true, if_false]
      exact hret _ H locs _ ls hr9 hP hD hS dX5_quotientBits_9

/-- a script without its last groups -/
def wlg (x : Int64) : Nat → Int64
  | 0 => x
  | n + 1 => wlg x n / 100000
def r_X5_withoutLastGroups (sc : Int64) (gr : Int32) : Int64 := wlg sc gr.toNatClampNeg

abbrev rX5_withoutLastGroups : Room := { frames := 0, cells := 0, slots := 0, locals := 0 }
set_option maxHeartbeats 4000000 in
set_option maxRecDepth 100000 in
theorem c_X5_withoutLastGroups (l : Launch) (D : va_G) (cy : Nat → ClassId)  (sc : Int64) (gr : Int32) (sz : Nat)  : CL l yX5_withoutLastGroups wsX5_withoutLastGroups rX5_withoutLastGroups D cy [.long sc, .int gr] [] sz (r_X5_withoutLastGroups sc gr) [] 0 0 := by
  refine st_l (cc := cX5_withoutLastGroups) (maxL := 6) (by decide) rfl (Nat.le_of_ble_eq_true rfl) ?_
  intro pp e s m below meth c A Q ls hx hb hts hown hml hlocks hsz hP hK hD hE hA hl hret
  subst hsz
  have hown : s.vm.findClass RX5 = some m.cls := hown
  have hl : lv_has ls 6 [(0, .long sc), (2, .int gr)] := hl
  obtain ⟨H, hH⟩ : ∃ H, H = s.heap := ⟨_, rfl⟩
  rw [← hH] at hP ⊢
  have hS : va_S A s.heap H [] := by rw [hH]; exact va_S.rf
  obtain ⟨locs, hlo⟩ : ∃ locs : List Loc, locs = [] := ⟨_, rfl⟩
  rw [← hlo] at hS ⊢
  have hN : gr.toNatClampNeg < 2 ^ 31 := tnc_lt gr
  have hloop : ∀ (k i : Nat), i + k = gr.toNatClampNeg → ∀ ls : Array Slot, lv_has ls 6 [(0, .long sc), (2, .int gr), (3, .long (wlg sc i)), (5, .int (nI i))] → W pp l e rX5_withoutLastGroups s m ([.long sc, .int gr] : List Value).toArray below meth c H locs 0 0 Q (F0 m 5 ls []) := by
    intro k
    induction k with
    | zero =>
      intro i hik ls hl
      refine lv_iload hx hb dX5_withoutLastGroups_5 (lv_at hl 3 rfl) ?_
      refine lv_iload_n hx hb dX5_withoutLastGroups_7 rfl (lv_at hl 1 rfl) ?_
      refine lv_icmp_ge (tgt := 23) hx hb dX5_withoutLastGroups_8 (by decide) (fun c_1 => ?_) (fun c_1 => absurd (ge_ofc (by omega) (by omega)) c_1)
      refine lv_lload_n hx hb dX5_withoutLastGroups_23 rfl (lv_at hl 2 rfl) ?_
      exact hret _ H locs _ ls (show (wlg sc i) = r_X5_withoutLastGroups sc gr from by unfold r_X5_withoutLastGroups; rw [← hik]; rfl) hP hD hS dX5_withoutLastGroups_24
    | succ k ih =>
      intro i hik ls hl
      refine lv_iload hx hb dX5_withoutLastGroups_5 (lv_at hl 3 rfl) ?_
      refine lv_iload_n hx hb dX5_withoutLastGroups_7 rfl (lv_at hl 1 rfl) ?_
      refine lv_icmp_ge (tgt := 23) hx hb dX5_withoutLastGroups_8 (by decide) (fun c_2 => absurd c_2 (lt_ofc (by omega) (by omega))) (fun c_2 => ?_)
      refine lv_lload_n hx hb dX5_withoutLastGroups_11 rfl (lv_at hl 2 rfl) ?_
      refine lv_ldc2 (v := (100000)) hx hb hown (hts _ (List.mem_of_getElem? (i := 1) rfl)) dX5_withoutLastGroups_12 ?_
      refine lv_ldiv hx hb dX5_withoutLastGroups_15 (by decide) ?_
      refine lv_lstore_n (lv' := [(3, .long ((wlg sc i) / (100000 : Int64))), (0, .long sc), (2, .int gr), (5, .int (nI i))]) hx hb dX5_withoutLastGroups_16 rfl hl (by decide) rfl (fun ls hl => ?_)
      refine lv_iinc (v := (nI (i + 1))) (lv' := [(5, .int (nI (i + 1))), (3, .long ((wlg sc i) / (100000 : Int64))), (0, .long sc), (2, .int gr)]) hx hb dX5_withoutLastGroups_17 hl (k := 3) rfl (nI_1 i) (by decide) rfl (fun ls hl => ?_)
      refine lv_goto (tgt := 5) hx hb dX5_withoutLastGroups_20 (by decide) ?_
      exact ih (i + 1) (by omega) ls (lv_sub hl [2, 3, 1, 0] rfl)
  refine lv_lload_n hx hb dX5_withoutLastGroups_0 rfl (lv_at hl 0 rfl) ?_
  refine lv_lstore_n (lv' := [(3, .long sc), (0, .long sc), (2, .int gr)]) hx hb dX5_withoutLastGroups_1 rfl hl (by decide) rfl (fun ls hl => ?_)
  refine lv_iconst (v := 0) hx hb dX5_withoutLastGroups_2 (by decide) ?_
  refine lv_istore (lv' := [(5, .int (0 : Int32)), (3, .long sc), (0, .long sc), (2, .int gr)]) hx hb dX5_withoutLastGroups_3 hl (by decide) rfl (fun ls hl => ?_)
  exact hloop gr.toNatClampNeg 0 (by omega) ls (lv_sub hl [2, 3, 1, 0] rfl)

def o_X5_share (V : BV) (pl : Int32) : Int32 × Int32 := (if (o_X5_checkPlace pl) = 0 then ((0 : Int32), (if ((V.2.1.1 2) pl.toNatClampNeg) ≤ 0 then (-99999 : Int32) else (r_X5_quotientBits ((V.2.1.1 3) pl.toNatClampNeg) ((V.2.1.1 2) pl.toNatClampNeg)))) else ((o_X5_checkPlace pl), (0 : Int32)))
abbrev rX5_share : Room := { frames := 7, cells := 1, slots := 6, locals := 110 }
theorem inX5_share_X3 : ∀ w ∈ u_ws RX3 TX3 11, w ∈ wsX5_share := by decide +kernel
theorem inX5_share_X5 : ∀ w ∈ u_ws RX5 TX5 6, w ∈ wsX5_share := by decide +kernel
set_option maxHeartbeats 4000000 in
set_option maxRecDepth 100000 in
theorem c_X5_share (l : Launch) (hlt : l.stackTraces = false) (D : va_G) (cy : Nat → ClassId) (ad : AD) (V : BV) (pl : Int32) (sz : Nat)  : CX l yX5_share wsX5_share rX5_share D cy [.ref (ad 0 0 0), .int pl] (wB cy ad V) sz (o_X5_share V pl) (wB cy ad V) 1 6 := by
  refine stx_i (ty := .int) (cc := cX5_share) (maxL := 3) (by decide) rfl rfl (Nat.le_of_ble_eq_true rfl) ?_
  intro pp e s m below meth c A Q ls hx hb hts hown hml hlocks htab hsz hP hK hD hE hA hl hAe hQ hret hout
  subst hsz
  have hown : s.vm.findClass RX5 = some m.cls := hown
  have hl : lv_has ls 3 [(0, .ref (ad 0 0 0)), (1, .int pl)] := hl
  obtain ⟨H, hH⟩ : ∃ H, H = s.heap := ⟨_, rfl⟩
  rw [← hH] at hP ⊢
  have hS : va_S A s.heap H [] := by rw [hH]; exact va_S.rf
  obtain ⟨locs, hlo⟩ : ∃ locs : List Loc, locs = [] := ⟨_, rfl⟩
  rw [← hlo] at hS ⊢
  refine lv_iload_n hx hb dX5_share_0 rfl (lv_at hl 1 rfl) ?_
  refine clx_n (vx_runS (As := [.int pl]) (rest := []) ⟨hx, hb, hml, hown, hts⟩ (c_X5_checkPlace l hlt D cy pl H.size) (va_cwS 1 hts gX5_share_X5_checkPlace rfl rfl rfl (by decide +kernel) ⟨Nat.le_of_ble_eq_true rfl, Nat.le_of_ble_eq_true rfl⟩) ⟨blU, preU hP hD (List.Perm.refl _) hK hE hS hA⟩ rfl rfl hl.1 rfl (lv_room (Nat.le_of_ble_eq_true rfl)) dX5_share_1 ⟨Nat.le_of_ble_eq_true rfl, Nat.le_of_ble_eq_true rfl⟩) hP hD (List.Perm.refl _) hS hA (fun c_1 q9 ce H locs hq hv hcl hP hD hS => ?_) (fun c_1 H locs hP hD hS => ?_)
  · have hP : va_P D vwCl (wB cy ad V) H := vP_perm hP (List.Perm.refl _)
    have hD : va_D A (wB cy ad V) := vD_perm hD (List.Perm.refl _)
    have ho9 : (o_X5_share V pl).1 = (o_X5_checkPlace pl) := by unfold o_X5_share; simp only [if_neg c_1, if_true, if_false]
    exact vx_widen (k := 1) (n := 6) (Nat.le_of_ble_eq_true rfl) (Nat.le_of_ble_eq_true rfl) (hout _ q9 ce H locs _ ls _ ho9 c_1 hq hv hcl hP hD hS)
  · have hP : va_P D vwCl (wB cy ad V) H := vP_perm hP (List.Perm.refl _)
    have hD : va_D A (wB cy ad V) := vD_perm hD (List.Perm.refl _)
    refine lv_aload_n hx hb dX5_share_4 rfl (lv_at hl 0 rfl) ?_
    refine va_get (D := D) (ci := 4) (v := .ref (ad 1 0 0)) (C := RX5) (T := TX5) (N := 6) hx hb hts inX5_share_X5 hown hK hP 0 rfl rfl 1 (by decide) (hts _ (List.mem_of_getElem? (i := 1) rfl)) (fun _ h9 => h9) rfl dX5_share_5 ?_
    refine va_get (D := D) (ci := 2) (v := .ref (((ad 1) 0) 4)) (C := RX3) (T := TX3) (N := 11) hx hb hts inX5_share_X3 hown hK hP 7 rfl rfl 3 (by decide) (hts _ (List.mem_of_getElem? (i := 2) rfl)) (fun _ h9 => h9) rfl dX5_share_8 ?_
    refine lv_iload_n hx hb dX5_share_11 rfl (lv_at hl 1 rfl) ?_
    refine x_iald (f := (V.2.1.1 2)) (j := pl.toNatClampNeg) hx hb hK hP 11 0 rfl rfl rfl (ckPlace_of c_1) dX5_share_12 ?_
    refine lv_istore_n (lv' := [(2, .int ((V.2.1.1 2) pl.toNatClampNeg)), (0, .ref (ad 0 0 0)), (1, .int pl)]) hx hb dX5_share_13 rfl hl (by decide) rfl (fun ls hl => ?_)
    refine lv_iload_n hx hb dX5_share_14 rfl (lv_at hl 0 rfl) ?_
    have J36_3 : ∀ (z_3 : Int32) (hz_3 : z_3 = (if ((V.2.1.1 2) pl.toNatClampNeg) ≤ 0 then (-99999 : Int32) else (r_X5_quotientBits ((V.2.1.1 3) pl.toNatClampNeg) ((V.2.1.1 2) pl.toNatClampNeg)))) (H : Heap) (locs : List Loc), va_P D vwCl (wB cy ad V) H → va_D A (wB cy ad V) → va_S A s.heap H locs → ∀ ls : Array Slot, lv_has ls 3 [(0, .ref (ad 0 0 0)), (1, .int pl), (2, .int ((V.2.1.1 2) pl.toNatClampNeg))] → W pp l e rX5_share s m ([.ref (ad 0 0 0), .int pl] : List Value).toArray below meth c H locs 1 6 Q (F0 m 36 ls [.int z_3]) := by
      intro z_3 hz_3 H locs hP hD hS ls hl
      subst hz_3
      have hr9 : (o_X5_share V pl) = ((0 : Int32), (if ((V.2.1.1 2) pl.toNatClampNeg) ≤ 0 then (-99999 : Int32) else (r_X5_quotientBits ((V.2.1.1 3) pl.toNatClampNeg) ((V.2.1.1 2) pl.toNatClampNeg)))) := by unfold o_X5_share; simp only [if_pos c_1, if_true, if_false]
      exact hret _ H locs _ ls hr9 hP hD hS dX5_share_36
    refine lv_if_le (tgt := 34) hx hb dX5_share_15 (by decide) (fun c_2 => ?_) (fun c_2 => ?_)
    · refine lv_ldc (v := (-99999)) hx hb hown (hts _ (List.mem_of_getElem? (i := 4) rfl)) dX5_share_34 ?_
      exact J36_3 (-99999 : Int32) (by simp only [if_pos c_2, if_true, if_false]) H locs hP hD hS ls (lv_sub hl [1, 2, 0] rfl)
    · refine lv_aload_n hx hb dX5_share_18 rfl (lv_at hl 1 rfl) ?_
      refine va_get (D := D) (ci := 4) (v := .ref (ad 1 0 0)) (C := RX5) (T := TX5) (N := 6) hx hb hts inX5_share_X5 hown hK hP 0 rfl rfl 1 (by decide) (hts _ (List.mem_of_getElem? (i := 1) rfl)) (fun _ h9 => h9) rfl dX5_share_19 ?_
      refine va_get (D := D) (ci := 2) (v := .ref (((ad 1) 0) 5)) (C := RX3) (T := TX3) (N := 11) hx hb hts inX5_share_X3 hown hK hP 7 rfl rfl 4 (by decide) (hts _ (List.mem_of_getElem? (i := 3) rfl)) (fun _ h9 => h9) rfl dX5_share_22 ?_
      refine lv_iload_n hx hb dX5_share_25 rfl (lv_at hl 2 rfl) ?_
      refine x_iald (f := (V.2.1.1 3)) (j := pl.toNatClampNeg) hx hb hK hP 12 0 rfl rfl rfl (ckPlace_of c_1) dX5_share_26 ?_
      refine lv_iload_n hx hb dX5_share_27 rfl (lv_at hl 0 rfl) ?_
      refine cl_i (va_runS (As := [.int ((V.2.1.1 3) pl.toNatClampNeg), .int ((V.2.1.1 2) pl.toNatClampNeg)]) (rest := []) ⟨hx, hb, hml, hown, hts⟩ (c_X5_quotientBits l D cy ((V.2.1.1 3) pl.toNatClampNeg) ((V.2.1.1 2) pl.toNatClampNeg) H.size) (va_cwS 2 hts gX5_share_X5_quotientBits rfl rfl rfl (by decide +kernel) ⟨Nat.le_of_ble_eq_true rfl, Nat.le_of_ble_eq_true rfl⟩) ⟨blU, preU hP hD (List.Perm.refl _) hK hE hS hA⟩ rfl rfl hl.1 rfl (lv_room (Nat.le_of_ble_eq_true rfl)) dX5_share_28 ⟨Nat.le_of_ble_eq_true rfl, Nat.le_of_ble_eq_true rfl⟩) hP hD (List.Perm.refl _) hS hA (fun H locs hP hD hS => ?_)
      have hP : va_P D vwCl (wB cy ad V) H := hP
      have hD : va_D A (wB cy ad V) := hD
      refine lv_goto (tgt := 36) hx hb dX5_share_31 (by decide) ?_
      exact J36_3 (r_X5_quotientBits ((V.2.1.1 3) pl.toNatClampNeg) ((V.2.1.1 2) pl.toNatClampNeg)) (by simp only [if_neg c_2, if_true, if_false]) H locs hP hD hS ls (lv_sub hl [1, 2, 0] rfl)

