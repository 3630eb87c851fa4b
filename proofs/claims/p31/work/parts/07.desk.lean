/-! ===== Desk ===== -/
theorem vp_c {x : Int32} {n : Nat} (h : ¬ (x < 0 ∨ n ≤ x.toNatClampNeg)) : vp_in x n := h
theorem sw_out2 (x : Int32) (h0 : ¬ x = 0) (h1 : ¬ x = 1) : x.toInt < 0 ∨ 1 < x.toInt := by
  have a0 : ¬ x.toInt = 0 := lv_neT h0 rfl
  have a1 : ¬ x.toInt = 1 := lv_neT h1 rfl
  omega
theorem sw_out4 (x : Int32) (h0 : ¬ x = 0) (h1 : ¬ x = 1) (h2 : ¬ x = 2) (h3 : ¬ x = 3) : x.toInt < 0 ∨ 3 < x.toInt := by
  have a0 : ¬ x.toInt = 0 := lv_neT h0 rfl
  have a1 : ¬ x.toInt = 1 := lv_neT h1 rfl
  have a2 : ¬ x.toInt = 2 := lv_neT h2 rfl
  have a3 : ¬ x.toInt = 3 := lv_neT h3 rfl
  omega
theorem sw_out5 (x : Int32) (h0 : ¬ x = 0) (h1 : ¬ x = 1) (h2 : ¬ x = 2) (h3 : ¬ x = 3) (h4 : ¬ x = 4) : x.toInt < 0 ∨ 4 < x.toInt := by
  have a0 : ¬ x.toInt = 0 := lv_neT h0 rfl
  have a1 : ¬ x.toInt = 1 := lv_neT h1 rfl
  have a2 : ¬ x.toInt = 2 := lv_neT h2 rfl
  have a3 : ¬ x.toInt = 3 := lv_neT h3 rfl
  have a4 : ¬ x.toInt = 4 := lv_neT h4 rfl
  omega
theorem sw_out10 (x : Int32) (h0 : ¬ x = 0) (h1 : ¬ x = 1) (h2 : ¬ x = 2) (h3 : ¬ x = 3) (h4 : ¬ x = 4) (h5 : ¬ x = 5) (h6 : ¬ x = 6) (h7 : ¬ x = 7) (h8 : ¬ x = 8) (h9 : ¬ x = 9) : x.toInt < 0 ∨ 9 < x.toInt := by
  have a0 : ¬ x.toInt = 0 := lv_neT h0 rfl
  have a1 : ¬ x.toInt = 1 := lv_neT h1 rfl
  have a2 : ¬ x.toInt = 2 := lv_neT h2 rfl
  have a3 : ¬ x.toInt = 3 := lv_neT h3 rfl
  have a4 : ¬ x.toInt = 4 := lv_neT h4 rfl
  have a5 : ¬ x.toInt = 5 := lv_neT h5 rfl
  have a6 : ¬ x.toInt = 6 := lv_neT h6 rfl
  have a7 : ¬ x.toInt = 7 := lv_neT h7 rfl
  have a8 : ¬ x.toInt = 8 := lv_neT h8 rfl
  have a9 : ¬ x.toInt = 9 := lv_neT h9 rfl
  omega
theorem sw_out18 (x : Int32) (h0 : ¬ x = 0) (h1 : ¬ x = 1) (h2 : ¬ x = 2) (h3 : ¬ x = 3) (h4 : ¬ x = 4) (h5 : ¬ x = 5) (h6 : ¬ x = 6) (h7 : ¬ x = 7) (h8 : ¬ x = 8) (h9 : ¬ x = 9) (h10 : ¬ x = 10) (h11 : ¬ x = 11) (h12 : ¬ x = 12) (h13 : ¬ x = 13) (h14 : ¬ x = 14) (h15 : ¬ x = 15) (h16 : ¬ x = 16) (h17 : ¬ x = 17) : x.toInt < 0 ∨ 17 < x.toInt := by
  have a0 : ¬ x.toInt = 0 := lv_neT h0 rfl
  have a1 : ¬ x.toInt = 1 := lv_neT h1 rfl
  have a2 : ¬ x.toInt = 2 := lv_neT h2 rfl
  have a3 : ¬ x.toInt = 3 := lv_neT h3 rfl
  have a4 : ¬ x.toInt = 4 := lv_neT h4 rfl
  have a5 : ¬ x.toInt = 5 := lv_neT h5 rfl
  have a6 : ¬ x.toInt = 6 := lv_neT h6 rfl
  have a7 : ¬ x.toInt = 7 := lv_neT h7 rfl
  have a8 : ¬ x.toInt = 8 := lv_neT h8 rfl
  have a9 : ¬ x.toInt = 9 := lv_neT h9 rfl
  have a10 : ¬ x.toInt = 10 := lv_neT h10 rfl
  have a11 : ¬ x.toInt = 11 := lv_neT h11 rfl
  have a12 : ¬ x.toInt = 12 := lv_neT h12 rfl
  have a13 : ¬ x.toInt = 13 := lv_neT h13 rfl
  have a14 : ¬ x.toInt = 14 := lv_neT h14 rfl
  have a15 : ¬ x.toInt = 15 := lv_neT h15 rfl
  have a16 : ¬ x.toInt = 16 := lv_neT h16 rfl
  have a17 : ¬ x.toInt = 17 := lv_neT h17 rfl
  omega
theorem sw1_out9 (x : Int32) (h0 : ¬ x = 1) (h1 : ¬ x = 2) (h2 : ¬ x = 3) (h3 : ¬ x = 4) (h4 : ¬ x = 5) (h5 : ¬ x = 6) (h6 : ¬ x = 7) (h7 : ¬ x = 8) (h8 : ¬ x = 9) : x.toInt < 1 ∨ 9 < x.toInt := by
  have a0 : ¬ x.toInt = 1 := lv_neT h0 rfl
  have a1 : ¬ x.toInt = 2 := lv_neT h1 rfl
  have a2 : ¬ x.toInt = 3 := lv_neT h2 rfl
  have a3 : ¬ x.toInt = 4 := lv_neT h3 rfl
  have a4 : ¬ x.toInt = 5 := lv_neT h4 rfl
  have a5 : ¬ x.toInt = 6 := lv_neT h5 rfl
  have a6 : ¬ x.toInt = 7 := lv_neT h6 rfl
  have a7 : ¬ x.toInt = 8 := lv_neT h7 rfl
  have a8 : ¬ x.toInt = 9 := lv_neT h8 rfl
  omega
def r_X0_pathFor (w : RV) (pl : Int32) : Int32 := ((w 5) (if ((w 0) 2) = (1 : Int32) then pl else (0 : Int32)).toNatClampNeg)
abbrev rX0_pathFor : Room := { frames := 0, cells := 0, slots := 0, locals := 0 }
theorem inX0_pathFor_X0 : ∀ w ∈ u_ws RX0 TX0 8, w ∈ wsX0_pathFor := by decide +kernel
set_option maxHeartbeats 4000000 in
set_option maxRecDepth 100000 in
/-- the path of a place -/
theorem c_X0_pathFor (l : Launch) (D : va_G) (cy : Nat → ClassId) (a : Nat → Nat) (w : RV) (pl : Int32) (sz : Nat) (hpl : vp_in pl 26) : CI l yX0_pathFor wsX0_pathFor rX0_pathFor D cy [.ref (a 0), .int pl] (cD cy a w) sz (r_X0_pathFor w pl) (cD cy a w) 0 0 := by
  refine st_i (ty := .int) (cc := cX0_pathFor) (maxL := 2) (by decide) rfl rfl (Nat.le_of_ble_eq_true rfl) ?_
  intro pp e s m below meth c A Q ls hx hb hts hown hml hlocks hsz hP hK hD hE hA hl hret
  subst hsz
  have hown : s.vm.findClass RX0 = some m.cls := hown
  have hl : lv_has ls 2 [(0, .ref (a 0)), (1, .int pl)] := hl
  obtain ⟨H, hH⟩ : ∃ H, H = s.heap := ⟨_, rfl⟩
  rw [← hH] at hP ⊢
  have hS : va_S A s.heap H [] := by rw [hH]; exact va_S.rf
  obtain ⟨locs, hlo⟩ : ∃ locs : List Loc, locs = [] := ⟨_, rfl⟩
  rw [← hlo] at hS ⊢
  refine lv_aload_n hx hb dX0_pathFor_0 rfl (lv_at hl 0 rfl) ?_
  refine va_get (D := D) (ci := 0) (v := .ref (a 6)) (C := RX0) (T := TX0) (N := 8) hx hb hts inX0_pathFor_X0 hown hK hP 0 rfl rfl 5 (by decide) (hts _ (List.mem_of_getElem? (i := 1) rfl)) (fun _ h9 => h9) rfl dX0_pathFor_1 ?_
  refine lv_aload_n hx hb dX0_pathFor_4 rfl (lv_at hl 0 rfl) ?_
  refine va_get (D := D) (ci := 0) (v := .ref (a 1)) (C := RX0) (T := TX0) (N := 8) hx hb hts inX0_pathFor_X0 hown hK hP 0 rfl rfl 0 (by decide) (hts _ (List.mem_of_getElem? (i := 2) rfl)) (fun _ h9 => h9) rfl dX0_pathFor_5 ?_
  refine lv_iconst (v := 2) hx hb dX0_pathFor_8 (by decide) ?_
  refine x_iald (f := (w 0)) (j := 2) hx hb hK hP 1 0 rfl rfl rfl (vp_c (by decide)) dX0_pathFor_9 ?_
  refine lv_iconst (v := 1) hx hb dX0_pathFor_10 (by decide) ?_
  have J19_2 : ∀ (z_2 : Int32) (hz_2 : z_2 = (if ((w 0) 2) = (1 : Int32) then pl else (0 : Int32))) (H : Heap) (locs : List Loc), va_P D vwCl (cD cy a w) H → va_D A (cD cy a w) → va_S A s.heap H locs → ∀ ls : Array Slot, lv_has ls 2 [(0, .ref (a 0)), (1, .int pl)] → W pp l e rX0_pathFor s m ([.ref (a 0), .int pl] : List Value).toArray below meth c H locs 0 0 Q (F0 m 19 ls [.int z_2, .ref (a 6)]) := by
    intro z_2 hz_2 H locs hP hD hS ls hl
    subst hz_2
    refine x_iald (f := (w 5)) (j := (if ((w 0) 2) = (1 : Int32) then pl else (0 : Int32)).toNatClampNeg) hx hb hK hP 6 0 rfl rfl rfl (by split <;> first | exact hpl | exact vp_c (by decide)) dX0_pathFor_19 ?_
    have hr9 : ((w 5) (if ((w 0) 2) = (1 : Int32) then pl else (0 : Int32)).toNatClampNeg) = (r_X0_pathFor w pl) := by rfl
    exact hret _ H locs _ ls hr9 hP hD hS dX0_pathFor_20
  refine lv_icmp_ne (tgt := 18) hx hb dX0_pathFor_11 (by decide) (fun c_1 => ?_) (fun c_1 => ?_)
  · refine lv_iconst (v := 0) hx hb dX0_pathFor_18 (by decide) ?_
    exact J19_2 (0 : Int32) (by simp only [if_neg c_1]) H locs hP hD hS ls (lv_sub hl [0, 1] rfl)
  · refine lv_iload_n hx hb dX0_pathFor_14 rfl (lv_at hl 1 rfl) ?_
    refine lv_goto (tgt := 19) hx hb dX0_pathFor_15 (by decide) ?_
    exact J19_2 pl (by simp only [if_pos c_1]) H locs hP hD hS ls (lv_sub hl [0, 1] rfl)

def r_X0_noteFor (w : RV) (pl : Int32) (sz2 : Int32) : Int32 := ((if ((w 0) 0) = 0 then pl else (if ((w 0) 0) = 1 then (r_X0_pathFor w pl) else (if ((w 0) 0) = 2 then (pl + (r_X0_pathFor w pl)) else (if ((w 0) 0) = 3 then (pl ^^^ (r_X0_pathFor w pl)) else ((pl <<< (((w 0) 1) &&& 31)) + (r_X0_pathFor w pl)))))) &&& (((1 : Int32) <<< (sz2 &&& 31)) - (1 : Int32)))
abbrev rX0_noteFor : Room := { frames := 1, cells := 0, slots := 0, locals := 21 }
theorem inX0_noteFor_X0 : ∀ w ∈ u_ws RX0 TX0 8, w ∈ wsX0_noteFor := by decide +kernel
set_option maxHeartbeats 4000000 in
set_option maxRecDepth 100000 in
/-- the note for a place -/
theorem c_X0_noteFor (l : Launch) (D : va_G) (cy : Nat → ClassId) (a : Nat → Nat) (w : RV) (pl : Int32) (sz2 : Int32) (sz : Nat) (hpl : vp_in pl 26) : CI l yX0_noteFor wsX0_noteFor rX0_noteFor D cy [.ref (a 0), .int pl, .int sz2] (cD cy a w) sz (r_X0_noteFor w pl sz2) (cD cy a w) 0 0 := by
  refine st_i (ty := .int) (cc := cX0_noteFor) (maxL := 5) (by decide) rfl rfl (Nat.le_of_ble_eq_true rfl) ?_
  intro pp e s m below meth c A Q ls hx hb hts hown hml hlocks hsz hP hK hD hE hA hl hret
  subst hsz
  have hown : s.vm.findClass RX0 = some m.cls := hown
  have hl : lv_has ls 5 [(0, .ref (a 0)), (1, .int pl), (2, .int sz2)] := hl
  obtain ⟨H, hH⟩ : ∃ H, H = s.heap := ⟨_, rfl⟩
  rw [← hH] at hP ⊢
  have hS : va_S A s.heap H [] := by rw [hH]; exact va_S.rf
  obtain ⟨locs, hlo⟩ : ∃ locs : List Loc, locs = [] := ⟨_, rfl⟩
  rw [← hlo] at hS ⊢
  refine lv_aload_n hx hb dX0_noteFor_0 rfl (lv_at hl 0 rfl) ?_
  refine lv_iload_n hx hb dX0_noteFor_1 rfl (lv_at hl 1 rfl) ?_
  refine cl_i (va_runV (As := [.int pl]) (rest := []) ⟨hx, hb, hml, hown, hts⟩ (c_X0_pathFor l D cy a w pl H.size hpl) (cwV 1 hts gX0_noteFor_X0_pathFor rfl rfl rfl (by decide +kernel) ⟨Nat.le_of_ble_eq_true rfl, Nat.le_of_ble_eq_true rfl⟩) ⟨blU, va_recv hK hP (ci := 0) (q0 := 0) rfl rfl, preU hP hD (pmI _) hK hE hS hA⟩ rfl rfl hl.1 rfl (lv_room (Nat.le_of_ble_eq_true rfl)) dX0_noteFor_2 ⟨Nat.le_of_ble_eq_true rfl, Nat.le_of_ble_eq_true rfl⟩) hP hD (pmI _) hS hA (fun H locs hP hD hS => ?_)
  have hP : va_P D vwCl (cD cy a w) H := vP_perm hP (pmI _).symm
  have hD : va_D A (cD cy a w) := vD_perm hD (pmI _).symm
  refine lv_istore_n (lv' := [(3, .int (r_X0_pathFor w pl)), (0, .ref (a 0)), (1, .int pl), (2, .int sz2)]) hx hb dX0_noteFor_5 rfl hl (by decide) rfl (fun ls hl => ?_)
  refine lv_aload_n hx hb dX0_noteFor_6 rfl (lv_at hl 1 rfl) ?_
  refine va_get (D := D) (ci := 0) (v := .ref (a 1)) (C := RX0) (T := TX0) (N := 8) hx hb hts inX0_noteFor_X0 hown hK hP 0 rfl rfl 0 (by decide) (hts _ (List.mem_of_getElem? (i := 1) rfl)) (fun _ h9 => h9) rfl dX0_noteFor_7 ?_
  refine lv_iconst (v := 0) hx hb dX0_noteFor_10 (by decide) ?_
  refine x_iald (f := (w 0)) (j := 0) hx hb hK hP 1 0 rfl rfl rfl (vp_c (by decide)) dX0_noteFor_11 ?_
  have J84_5 : ∀ (z_5 : Int32) (hz_5 : z_5 = (if ((w 0) 0) = 0 then pl else (if ((w 0) 0) = 1 then (r_X0_pathFor w pl) else (if ((w 0) 0) = 2 then (pl + (r_X0_pathFor w pl)) else (if ((w 0) 0) = 3 then (pl ^^^ (r_X0_pathFor w pl)) else ((pl <<< (((w 0) 1) &&& 31)) + (r_X0_pathFor w pl))))))) (H : Heap) (locs : List Loc), va_P D vwCl (cD cy a w) H → va_D A (cD cy a w) → va_S A s.heap H locs → ∀ ls : Array Slot, lv_has ls 5 [(0, .ref (a 0)), (1, .int pl), (2, .int sz2), (3, .int (r_X0_pathFor w pl)), (4, .int z_5)] → W pp l e rX0_noteFor s m ([.ref (a 0), .int pl, .int sz2] : List Value).toArray below meth c H locs 0 0 Q (F0 m 84 ls []) := by
    intro z_5 hz_5 H locs hP hD hS ls hl
    subst hz_5
    refine lv_iload hx hb dX0_noteFor_84 (lv_at hl 4 rfl) ?_
    refine lv_iconst (v := 1) hx hb dX0_noteFor_86 (by decide) ?_
    refine lv_iload_n hx hb dX0_noteFor_87 rfl (lv_at hl 2 rfl) ?_
    refine lv_ishl hx hb dX0_noteFor_88 ?_
    refine lv_iconst (v := 1) hx hb dX0_noteFor_89 (by decide) ?_
    refine lv_isub hx hb dX0_noteFor_90 ?_
    refine lv_iand hx hb dX0_noteFor_91 ?_
    have hr9 : ((if ((w 0) 0) = 0 then pl else (if ((w 0) 0) = 1 then (r_X0_pathFor w pl) else (if ((w 0) 0) = 2 then (pl + (r_X0_pathFor w pl)) else (if ((w 0) 0) = 3 then (pl ^^^ (r_X0_pathFor w pl)) else ((pl <<< (((w 0) 1) &&& 31)) + (r_X0_pathFor w pl)))))) &&& (((1 : Int32) <<< (sz2 &&& 31)) - (1 : Int32))) = (r_X0_noteFor w pl sz2) := by rfl
    exact hret _ H locs _ ls hr9 hP hD hS dX0_noteFor_92
  by_cases c_1 : ((w 0) 0) = 0
  · refine lv_tableIn (tgt := 44) (off := 32) hx hb dX0_noteFor_12 (by rw [c_1]; decide) (by rw [c_1]; decide) (by rw [c_1]; rfl) (by decide) ?_
    refine lv_iload_n hx hb dX0_noteFor_44 rfl (lv_at hl 2 rfl) ?_
    refine lv_istore (lv' := [(4, .int pl), (3, .int (r_X0_pathFor w pl)), (0, .ref (a 0)), (1, .int pl), (2, .int sz2)]) hx hb dX0_noteFor_45 hl (by decide) rfl (fun ls hl => ?_)
    refine lv_goto (tgt := 84) hx hb dX0_noteFor_47 (by decide) ?_
    exact J84_5 pl (by simp only [if_pos c_1]) H locs hP hD hS ls (lv_sub hl [2, 3, 4, 1, 0] rfl)
  · by_cases c_2 : ((w 0) 0) = 1
    · refine lv_tableIn (tgt := 50) (off := 38) hx hb dX0_noteFor_12 (by rw [c_2]; decide) (by rw [c_2]; decide) (by rw [c_2]; rfl) (by decide) ?_
      refine lv_iload_n hx hb dX0_noteFor_50 rfl (lv_at hl 0 rfl) ?_
      refine lv_istore (lv' := [(4, .int (r_X0_pathFor w pl)), (3, .int (r_X0_pathFor w pl)), (0, .ref (a 0)), (1, .int pl), (2, .int sz2)]) hx hb dX0_noteFor_51 hl (by decide) rfl (fun ls hl => ?_)
      refine lv_goto (tgt := 84) hx hb dX0_noteFor_53 (by decide) ?_
      exact J84_5 (r_X0_pathFor w pl) (by simp only [if_neg c_1, if_pos c_2]) H locs hP hD hS ls (lv_sub hl [2, 3, 4, 1, 0] rfl)
    · by_cases c_3 : ((w 0) 0) = 2
      · refine lv_tableIn (tgt := 56) (off := 44) hx hb dX0_noteFor_12 (by rw [c_3]; decide) (by rw [c_3]; decide) (by rw [c_3]; rfl) (by decide) ?_
        refine lv_iload_n hx hb dX0_noteFor_56 rfl (lv_at hl 2 rfl) ?_
        refine lv_iload_n hx hb dX0_noteFor_57 rfl (lv_at hl 0 rfl) ?_
        refine lv_iadd hx hb dX0_noteFor_58 ?_
        refine lv_istore (lv' := [(4, .int (pl + (r_X0_pathFor w pl))), (3, .int (r_X0_pathFor w pl)), (0, .ref (a 0)), (1, .int pl), (2, .int sz2)]) hx hb dX0_noteFor_59 hl (by decide) rfl (fun ls hl => ?_)
        refine lv_goto (tgt := 84) hx hb dX0_noteFor_61 (by decide) ?_
        exact J84_5 (pl + (r_X0_pathFor w pl)) (by simp only [if_neg c_1, if_neg c_2, if_pos c_3]) H locs hP hD hS ls (lv_sub hl [2, 3, 4, 1, 0] rfl)
      · by_cases c_4 : ((w 0) 0) = 3
        · refine lv_tableIn (tgt := 64) (off := 52) hx hb dX0_noteFor_12 (by rw [c_4]; decide) (by rw [c_4]; decide) (by rw [c_4]; rfl) (by decide) ?_
          refine lv_iload_n hx hb dX0_noteFor_64 rfl (lv_at hl 2 rfl) ?_
          refine lv_iload_n hx hb dX0_noteFor_65 rfl (lv_at hl 0 rfl) ?_
          refine lv_ixor hx hb dX0_noteFor_66 ?_
          refine lv_istore (lv' := [(4, .int (pl ^^^ (r_X0_pathFor w pl))), (3, .int (r_X0_pathFor w pl)), (0, .ref (a 0)), (1, .int pl), (2, .int sz2)]) hx hb dX0_noteFor_67 hl (by decide) rfl (fun ls hl => ?_)
          refine lv_goto (tgt := 84) hx hb dX0_noteFor_69 (by decide) ?_
          exact J84_5 (pl ^^^ (r_X0_pathFor w pl)) (by simp only [if_neg c_1, if_neg c_2, if_neg c_3, if_pos c_4]) H locs hP hD hS ls (lv_sub hl [2, 3, 4, 1, 0] rfl)
        · have hso : ((w 0) 0).toInt < 0 ∨ 3 < ((w 0) 0).toInt := sw_out4 ((w 0) 0) c_1 c_2 c_3 c_4
          refine lv_tableOut (tgt := 72) hx hb dX0_noteFor_12 hso (by decide) ?_
          refine lv_iload_n hx hb dX0_noteFor_72 rfl (lv_at hl 2 rfl) ?_
          refine lv_aload_n hx hb dX0_noteFor_73 rfl (lv_at hl 1 rfl) ?_
          refine va_get (D := D) (ci := 0) (v := .ref (a 1)) (C := RX0) (T := TX0) (N := 8) hx hb hts inX0_noteFor_X0 hown hK hP 0 rfl rfl 0 (by decide) (hts _ (List.mem_of_getElem? (i := 1) rfl)) (fun _ h9 => h9) rfl dX0_noteFor_74 ?_
          refine lv_iconst (v := 1) hx hb dX0_noteFor_77 (by decide) ?_
          refine x_iald (f := (w 0)) (j := 1) hx hb hK hP 1 0 rfl rfl rfl (vp_c (by decide)) dX0_noteFor_78 ?_
          refine lv_ishl hx hb dX0_noteFor_79 ?_
          refine lv_iload_n hx hb dX0_noteFor_80 rfl (lv_at hl 0 rfl) ?_
          refine lv_iadd hx hb dX0_noteFor_81 ?_
          refine lv_istore (lv' := [(4, .int ((pl <<< (((w 0) 1) &&& 31)) + (r_X0_pathFor w pl))), (3, .int (r_X0_pathFor w pl)), (0, .ref (a 0)), (1, .int pl), (2, .int sz2)]) hx hb dX0_noteFor_82 hl (by decide) rfl (fun ls hl => ?_)
          exact J84_5 ((pl <<< (((w 0) 1) &&& 31)) + (r_X0_pathFor w pl)) (by simp only [if_neg c_1, if_neg c_2, if_neg c_3, if_neg c_4]) H locs hP hD hS ls (lv_sub hl [2, 3, 4, 1, 0] rfl)

def w_X0_changePath (w : RV) (pl : Int32) (tk : Int32) : RV := (mkD (w 0) (w 1) (w 2) (w 3) (w 4) (upd (w 5) (if ((w 0) 2) = (1 : Int32) then pl else (0 : Int32)).toNatClampNeg ((((2 : Int32) * (r_X0_pathFor w pl)) + (if tk = 0 then (0 : Int32) else (1 : Int32))) &&& (((1 : Int32) <<< (((w 0) 1) &&& 31)) - (1 : Int32)))) (w 6 0) (w 7 0))
abbrev rX0_changePath : Room := { frames := 1, cells := 0, slots := 0, locals := 21 }
theorem inX0_changePath_X0 : ∀ w ∈ u_ws RX0 TX0 8, w ∈ wsX0_changePath := by decide +kernel
set_option maxHeartbeats 4000000 in
set_option maxRecDepth 100000 in
theorem c_X0_changePath (l : Launch) (D : va_G) (cy : Nat → ClassId) (a : Nat → Nat) (w : RV) (pl : Int32) (tk : Int32) (sz : Nat) (hpl : vp_in pl 26) : CN l yX0_changePath wsX0_changePath rX0_changePath D cy [.ref (a 0), .int pl, .int tk] (cD cy a w) sz (cD cy a (w_X0_changePath w pl tk)) 0 0 := by
  refine st_n (cc := cX0_changePath) (maxL := 4) (by decide) rfl (Nat.le_of_ble_eq_true rfl) ?_
  intro pp e s m below meth c A Q ls hx hb hts hown hml hlocks hsz hP hK hD hE hA hl hret
  subst hsz
  have hown : s.vm.findClass RX0 = some m.cls := hown
  have hl : lv_has ls 4 [(0, .ref (a 0)), (1, .int pl), (2, .int tk)] := hl
  obtain ⟨H, hH⟩ : ∃ H, H = s.heap := ⟨_, rfl⟩
  rw [← hH] at hP ⊢
  have hS : va_S A s.heap H [] := by rw [hH]; exact va_S.rf
  obtain ⟨locs, hlo⟩ : ∃ locs : List Loc, locs = [] := ⟨_, rfl⟩
  rw [← hlo] at hS ⊢
  refine lv_iconst (v := 2) hx hb dX0_changePath_0 (by decide) ?_
  refine lv_aload_n hx hb dX0_changePath_1 rfl (lv_at hl 0 rfl) ?_
  refine lv_iload_n hx hb dX0_changePath_2 rfl (lv_at hl 1 rfl) ?_
  refine cl_i (va_runV (As := [.int pl]) (rest := [.int (2 : Int32)]) ⟨hx, hb, hml, hown, hts⟩ (c_X0_pathFor l D cy a w pl H.size hpl) (cwV 1 hts gX0_changePath_X0_pathFor rfl rfl rfl (by decide +kernel) ⟨Nat.le_of_ble_eq_true rfl, Nat.le_of_ble_eq_true rfl⟩) ⟨blU, va_recv hK hP (ci := 0) (q0 := 0) rfl rfl, preU hP hD (pmI _) hK hE hS hA⟩ rfl rfl hl.1 rfl (lv_room (Nat.le_of_ble_eq_true rfl)) dX0_changePath_3 ⟨Nat.le_of_ble_eq_true rfl, Nat.le_of_ble_eq_true rfl⟩) hP hD (pmI _) hS hA (fun H locs hP hD hS => ?_)
  have hP : va_P D vwCl (cD cy a w) H := vP_perm hP (pmI _).symm
  have hD : va_D A (cD cy a w) := vD_perm hD (pmI _).symm
  refine lv_imul hx hb dX0_changePath_6 ?_
  refine lv_iload_n hx hb dX0_changePath_7 rfl (lv_at hl 2 rfl) ?_
  have J16_2 : ∀ (z_2 : Int32) (hz_2 : z_2 = (if tk = 0 then (0 : Int32) else (1 : Int32))) (H : Heap) (locs : List Loc), va_P D vwCl (cD cy a w) H → va_D A (cD cy a w) → va_S A s.heap H locs → ∀ ls : Array Slot, lv_has ls 4 [(0, .ref (a 0)), (1, .int pl), (2, .int tk)] → W pp l e rX0_changePath s m ([.ref (a 0), .int pl, .int tk] : List Value).toArray below meth c H locs 0 0 Q (F0 m 16 ls [.int z_2, .int ((2 : Int32) * (r_X0_pathFor w pl))]) := by
    intro z_2 hz_2 H locs hP hD hS ls hl
    subst hz_2
    refine lv_iadd hx hb dX0_changePath_16 ?_
    refine lv_istore_n (lv' := [(3, .int (((2 : Int32) * (r_X0_pathFor w pl)) + (if tk = 0 then (0 : Int32) else (1 : Int32)))), (0, .ref (a 0)), (1, .int pl), (2, .int tk)]) hx hb dX0_changePath_17 rfl hl (by decide) rfl (fun ls hl => ?_)
    refine lv_aload_n hx hb dX0_changePath_18 rfl (lv_at hl 1 rfl) ?_
    refine va_get (D := D) (ci := 0) (v := .ref (a 6)) (C := RX0) (T := TX0) (N := 8) hx hb hts inX0_changePath_X0 hown hK hP 0 rfl rfl 5 (by decide) (hts _ (List.mem_of_getElem? (i := 1) rfl)) (fun _ h9 => h9) rfl dX0_changePath_19 ?_
    refine lv_aload_n hx hb dX0_changePath_22 rfl (lv_at hl 1 rfl) ?_
    refine va_get (D := D) (ci := 0) (v := .ref (a 1)) (C := RX0) (T := TX0) (N := 8) hx hb hts inX0_changePath_X0 hown hK hP 0 rfl rfl 0 (by decide) (hts _ (List.mem_of_getElem? (i := 2) rfl)) (fun _ h9 => h9) rfl dX0_changePath_23 ?_
    refine lv_iconst (v := 2) hx hb dX0_changePath_26 (by decide) ?_
    refine x_iald (f := (w 0)) (j := 2) hx hb hK hP 1 0 rfl rfl rfl (vp_c (by decide)) dX0_changePath_27 ?_
    refine lv_iconst (v := 1) hx hb dX0_changePath_28 (by decide) ?_
    have J37_5 : ∀ (z_5 : Int32) (hz_5 : z_5 = (if ((w 0) 2) = (1 : Int32) then pl else (0 : Int32))) (H : Heap) (locs : List Loc), va_P D vwCl (cD cy a w) H → va_D A (cD cy a w) → va_S A s.heap H locs → ∀ ls : Array Slot, lv_has ls 4 [(0, .ref (a 0)), (1, .int pl), (2, .int tk), (3, .int (((2 : Int32) * (r_X0_pathFor w pl)) + (if tk = 0 then (0 : Int32) else (1 : Int32))))] → W pp l e rX0_changePath s m ([.ref (a 0), .int pl, .int tk] : List Value).toArray below meth c H locs 0 0 Q (F0 m 37 ls [.int z_5, .ref (a 6)]) := by
      intro z_5 hz_5 H locs hP hD hS ls hl
      subst hz_5
      refine lv_iload_n hx hb dX0_changePath_37 rfl (lv_at hl 3 rfl) ?_
      refine lv_iconst (v := 1) hx hb dX0_changePath_38 (by decide) ?_
      refine lv_aload_n hx hb dX0_changePath_39 rfl (lv_at hl 0 rfl) ?_
      refine va_get (D := D) (ci := 0) (v := .ref (a 1)) (C := RX0) (T := TX0) (N := 8) hx hb hts inX0_changePath_X0 hown hK hP 0 rfl rfl 0 (by decide) (hts _ (List.mem_of_getElem? (i := 2) rfl)) (fun _ h9 => h9) rfl dX0_changePath_40 ?_
      refine lv_iconst (v := 1) hx hb dX0_changePath_43 (by decide) ?_
      refine x_iald (f := (w 0)) (j := 1) hx hb hK hP 1 0 rfl rfl rfl (vp_c (by decide)) dX0_changePath_44 ?_
      refine lv_ishl hx hb dX0_changePath_45 ?_
      refine lv_iconst (v := 1) hx hb dX0_changePath_46 (by decide) ?_
      refine lv_isub hx hb dX0_changePath_47 ?_
      refine lv_iand hx hb dX0_changePath_48 ?_
      refine x_iast (j := (if ((w 0) 2) = (1 : Int32) then pl else (0 : Int32)).toNatClampNeg) hx hb hK hP hD hS 6 0 rfl rfl rfl (by split <;> first | exact hpl | exact vp_c (by decide)) dX0_changePath_49 (fun H locs hP hD hS => ?_)
      have hP : va_P D vwCl (cD cy a (mkD (w 0) (w 1) (w 2) (w 3) (w 4) (upd (w 5) (if ((w 0) 2) = (1 : Int32) then pl else (0 : Int32)).toNatClampNeg ((((2 : Int32) * (r_X0_pathFor w pl)) + (if tk = 0 then (0 : Int32) else (1 : Int32))) &&& (((1 : Int32) <<< (((w 0) 1) &&& 31)) - (1 : Int32)))) (w 6 0) (w 7 0))) H := hP
      have hD : va_D A (cD cy a (mkD (w 0) (w 1) (w 2) (w 3) (w 4) (upd (w 5) (if ((w 0) 2) = (1 : Int32) then pl else (0 : Int32)).toNatClampNeg ((((2 : Int32) * (r_X0_pathFor w pl)) + (if tk = 0 then (0 : Int32) else (1 : Int32))) &&& (((1 : Int32) <<< (((w 0) 1) &&& 31)) - (1 : Int32)))) (w 6 0) (w 7 0))) := hD
      have hw9 : (w_X0_changePath w pl tk) = (mkD (w 0) (w 1) (w 2) (w 3) (w 4) (upd (w 5) (if ((w 0) 2) = (1 : Int32) then pl else (0 : Int32)).toNatClampNeg ((((2 : Int32) * (r_X0_pathFor w pl)) + (if tk = 0 then (0 : Int32) else (1 : Int32))) &&& (((1 : Int32) <<< (((w 0) 1) &&& 31)) - (1 : Int32)))) (w 6 0) (w 7 0)) := by rfl
      exact hret H locs _ ls (by rw [hw9]; exact hP) (by rw [hw9]; exact hD) hS dX0_changePath_50
    refine lv_icmp_ne (tgt := 36) hx hb dX0_changePath_29 (by decide) (fun c_4 => ?_) (fun c_4 => ?_)
    · refine lv_iconst (v := 0) hx hb dX0_changePath_36 (by decide) ?_
      exact J37_5 (0 : Int32) (by simp only [if_neg c_4]) H locs hP hD hS ls (lv_sub hl [1, 2, 3, 0] rfl)
    · refine lv_iload_n hx hb dX0_changePath_32 rfl (lv_at hl 2 rfl) ?_
      refine lv_goto (tgt := 37) hx hb dX0_changePath_33 (by decide) ?_
      exact J37_5 pl (by simp only [if_pos c_4]) H locs hP hD hS ls (lv_sub hl [1, 2, 3, 0] rfl)
  refine lv_if_eq (tgt := 15) hx hb dX0_changePath_8 (by decide) (fun c_1 => ?_) (fun c_1 => ?_)
  · refine lv_iconst (v := 0) hx hb dX0_changePath_15 (by decide) ?_
    exact J16_2 (0 : Int32) (by simp only [if_pos c_1]) H locs hP hD hS ls (lv_sub hl [0, 1, 2] rfl)
  · refine lv_iconst (v := 1) hx hb dX0_changePath_11 (by decide) ?_
    refine lv_goto (tgt := 16) hx hb dX0_changePath_12 (by decide) ?_
    exact J16_2 (1 : Int32) (by simp only [if_neg c_1]) H locs hP hD hS ls (lv_sub hl [0, 1, 2] rfl)

def w_X0_use (w : RV) (i : Int32) (pl : Int32) (tk : Int32) (mid : Int32) : RV := (mkD (w 0) (if tk = 0 then (upd (w 1) i.toNatClampNeg (if (((w 1) i.toNatClampNeg) - (1 : Int32)) < (0 : Int32) then (0 : Int32) else (((w 1) i.toNatClampNeg) - (1 : Int32)))) else (upd (w 1) i.toNatClampNeg (if (((2 : Int32) * mid) - (1 : Int32)) < (((w 1) i.toNatClampNeg) + (1 : Int32)) then (((2 : Int32) * mid) - (1 : Int32)) else (((w 1) i.toNatClampNeg) + (1 : Int32))))) (upd (w 2) i.toNatClampNeg pl) (upd (w 3) i.toNatClampNeg (((w 3) i.toNatClampNeg) + (1 : Int32))) (if (if ((w 1) i.toNatClampNeg) < mid then (0 : Int32) else (1 : Int32)) = tk then (upd (w 4) i.toNatClampNeg (((w 4) i.toNatClampNeg) + (1 : Int32))) else (w 4)) (w 5) (if ((w 3) i.toNatClampNeg) ≤ 0 then (w 6 0) else (if ((w 2) i.toNatClampNeg) = pl then (w 6 0) else ((w 6 0) + (1 : Int32)))) (if (if ((w 1) i.toNatClampNeg) < mid then (0 : Int32) else (1 : Int32)) = tk then ((w 7 0) + (1 : Int32)) else (w 7 0)))
abbrev rX0_use : Room := { frames := 1, cells := 0, slots := 0, locals := 24 }
theorem inX0_use_X0 : ∀ w ∈ u_ws RX0 TX0 8, w ∈ wsX0_use := by decide +kernel
set_option maxHeartbeats 4000000 in
set_option maxRecDepth 100000 in
theorem c_X0_use (l : Launch) (D : va_G) (cy : Nat → ClassId) (a : Nat → Nat) (w : RV) (i : Int32) (pl : Int32) (tk : Int32) (mid : Int32) (sz : Nat) (hi : vp_in i 64) : CN l yX0_use wsX0_use rX0_use D cy [.ref (a 0), .int i, .int pl, .int tk, .int mid] (cD cy a w) sz (cD cy a (w_X0_use w i pl tk mid)) 0 0 := by
  refine st_n (cc := cX0_use) (maxL := 5) (by decide) rfl (Nat.le_of_ble_eq_true rfl) ?_
  intro pp e s m below meth c A Q ls hx hb hts hown hml hlocks hsz hP hK hD hE hA hl hret
  subst hsz
  have hown : s.vm.findClass RX0 = some m.cls := hown
  have hl : lv_has ls 5 [(0, .ref (a 0)), (1, .int i), (2, .int pl), (3, .int tk), (4, .int mid)] := hl
  obtain ⟨H, hH⟩ : ∃ H, H = s.heap := ⟨_, rfl⟩
  rw [← hH] at hP ⊢
  have hS : va_S A s.heap H [] := by rw [hH]; exact va_S.rf
  obtain ⟨locs, hlo⟩ : ∃ locs : List Loc, locs = [] := ⟨_, rfl⟩
  rw [← hlo] at hS ⊢
  refine lv_aload_n hx hb dX0_use_0 rfl (lv_at hl 0 rfl) ?_
  refine va_get (D := D) (ci := 0) (v := .ref (a 4)) (C := RX0) (T := TX0) (N := 8) hx hb hts inX0_use_X0 hown hK hP 0 rfl rfl 3 (by decide) (hts _ (List.mem_of_getElem? (i := 1) rfl)) (fun _ h9 => h9) rfl dX0_use_1 ?_
  refine lv_iload_n hx hb dX0_use_4 rfl (lv_at hl 1 rfl) ?_
  refine x_iald (f := (w 3)) (j := i.toNatClampNeg) hx hb hK hP 4 0 rfl rfl rfl hi dX0_use_5 ?_
  have J29_2 : ∀ (z_2 : Int32) (hz_2 : z_2 = (if ((w 3) i.toNatClampNeg) ≤ 0 then (w 6 0) else (if ((w 2) i.toNatClampNeg) = pl then (w 6 0) else ((w 6 0) + (1 : Int32))))) (H : Heap) (locs : List Loc), va_P D vwCl (cD cy a (mkD (w 0) (w 1) (w 2) (w 3) (w 4) (w 5) z_2 (w 7 0))) H → va_D A (cD cy a (mkD (w 0) (w 1) (w 2) (w 3) (w 4) (w 5) z_2 (w 7 0))) → va_S A s.heap H locs → ∀ ls : Array Slot, lv_has ls 5 [(0, .ref (a 0)), (1, .int i), (2, .int pl), (3, .int tk), (4, .int mid)] → W pp l e rX0_use s m ([.ref (a 0), .int i, .int pl, .int tk, .int mid] : List Value).toArray below meth c H locs 0 0 Q (F0 m 29 ls []) := by
    intro z_2 hz_2 H locs hP hD hS ls hl
    subst hz_2
    refine lv_aload_n hx hb dX0_use_29 rfl (lv_at hl 0 rfl) ?_
    refine va_get (D := D) (ci := 0) (v := .ref (a 4)) (C := RX0) (T := TX0) (N := 8) hx hb hts inX0_use_X0 hown hK hP 0 rfl rfl 3 (by decide) (hts _ (List.mem_of_getElem? (i := 1) rfl)) (fun _ h9 => h9) rfl dX0_use_30 ?_
    refine lv_iload_n hx hb dX0_use_33 rfl (lv_at hl 1 rfl) ?_
    refine lv_dup2_11 hx hb dX0_use_34 rfl rfl ?_
    refine x_iald (f := (w 3)) (j := i.toNatClampNeg) hx hb hK hP 4 0 rfl rfl rfl hi dX0_use_35 ?_
    refine lv_iconst (v := 1) hx hb dX0_use_36 (by decide) ?_
    refine lv_iadd hx hb dX0_use_37 ?_
    refine x_iast (j := i.toNatClampNeg) hx hb hK hP hD hS 4 0 rfl rfl rfl hi dX0_use_38 (fun H locs hP hD hS => ?_)
    have hP : va_P D vwCl (cD cy a (mkD (w 0) (w 1) (w 2) (upd (w 3) i.toNatClampNeg (((w 3) i.toNatClampNeg) + (1 : Int32))) (w 4) (w 5) (if ((w 3) i.toNatClampNeg) ≤ 0 then (w 6 0) else (if ((w 2) i.toNatClampNeg) = pl then (w 6 0) else ((w 6 0) + (1 : Int32)))) (w 7 0))) H := hP
    have hD : va_D A (cD cy a (mkD (w 0) (w 1) (w 2) (upd (w 3) i.toNatClampNeg (((w 3) i.toNatClampNeg) + (1 : Int32))) (w 4) (w 5) (if ((w 3) i.toNatClampNeg) ≤ 0 then (w 6 0) else (if ((w 2) i.toNatClampNeg) = pl then (w 6 0) else ((w 6 0) + (1 : Int32)))) (w 7 0))) := hD
    refine lv_aload_n hx hb dX0_use_39 rfl (lv_at hl 0 rfl) ?_
    refine va_get (D := D) (ci := 0) (v := .ref (a 3)) (C := RX0) (T := TX0) (N := 8) hx hb hts inX0_use_X0 hown hK hP 0 rfl rfl 2 (by decide) (hts _ (List.mem_of_getElem? (i := 2) rfl)) (fun _ h9 => h9) rfl dX0_use_40 ?_
    refine lv_iload_n hx hb dX0_use_43 rfl (lv_at hl 1 rfl) ?_
    refine lv_iload_n hx hb dX0_use_44 rfl (lv_at hl 2 rfl) ?_
    refine x_iast (j := i.toNatClampNeg) hx hb hK hP hD hS 3 0 rfl rfl rfl hi dX0_use_45 (fun H locs hP hD hS => ?_)
    have hP : va_P D vwCl (cD cy a (mkD (w 0) (w 1) (upd (w 2) i.toNatClampNeg pl) (upd (w 3) i.toNatClampNeg (((w 3) i.toNatClampNeg) + (1 : Int32))) (w 4) (w 5) (if ((w 3) i.toNatClampNeg) ≤ 0 then (w 6 0) else (if ((w 2) i.toNatClampNeg) = pl then (w 6 0) else ((w 6 0) + (1 : Int32)))) (w 7 0))) H := hP
    have hD : va_D A (cD cy a (mkD (w 0) (w 1) (upd (w 2) i.toNatClampNeg pl) (upd (w 3) i.toNatClampNeg (((w 3) i.toNatClampNeg) + (1 : Int32))) (w 4) (w 5) (if ((w 3) i.toNatClampNeg) ≤ 0 then (w 6 0) else (if ((w 2) i.toNatClampNeg) = pl then (w 6 0) else ((w 6 0) + (1 : Int32)))) (w 7 0))) := hD
    refine lv_aload_n hx hb dX0_use_46 rfl (lv_at hl 0 rfl) ?_
    refine va_get (D := D) (ci := 0) (v := .ref (a 2)) (C := RX0) (T := TX0) (N := 8) hx hb hts inX0_use_X0 hown hK hP 0 rfl rfl 1 (by decide) (hts _ (List.mem_of_getElem? (i := 4) rfl)) (fun _ h9 => h9) rfl dX0_use_47 ?_
    refine lv_iload_n hx hb dX0_use_50 rfl (lv_at hl 1 rfl) ?_
    refine x_iald (f := (w 1)) (j := i.toNatClampNeg) hx hb hK hP 2 0 rfl rfl rfl hi dX0_use_51 ?_
    refine lv_iload hx hb dX0_use_52 (lv_at hl 4 rfl) ?_
    have J62_5 : ∀ (z_5 : Int32) (hz_5 : z_5 = (if ((w 1) i.toNatClampNeg) < mid then (0 : Int32) else (1 : Int32))) (H : Heap) (locs : List Loc), va_P D vwCl (cD cy a (mkD (w 0) (w 1) (upd (w 2) i.toNatClampNeg pl) (upd (w 3) i.toNatClampNeg (((w 3) i.toNatClampNeg) + (1 : Int32))) (w 4) (w 5) (if ((w 3) i.toNatClampNeg) ≤ 0 then (w 6 0) else (if ((w 2) i.toNatClampNeg) = pl then (w 6 0) else ((w 6 0) + (1 : Int32)))) (w 7 0))) H → va_D A (cD cy a (mkD (w 0) (w 1) (upd (w 2) i.toNatClampNeg pl) (upd (w 3) i.toNatClampNeg (((w 3) i.toNatClampNeg) + (1 : Int32))) (w 4) (w 5) (if ((w 3) i.toNatClampNeg) ≤ 0 then (w 6 0) else (if ((w 2) i.toNatClampNeg) = pl then (w 6 0) else ((w 6 0) + (1 : Int32)))) (w 7 0))) → va_S A s.heap H locs → ∀ ls : Array Slot, lv_has ls 5 [(0, .ref (a 0)), (1, .int i), (2, .int pl), (3, .int tk), (4, .int mid)] → W pp l e rX0_use s m ([.ref (a 0), .int i, .int pl, .int tk, .int mid] : List Value).toArray below meth c H locs 0 0 Q (F0 m 62 ls [.int z_5]) := by
      intro z_5 hz_5 H locs hP hD hS ls hl
      subst hz_5
      refine lv_iload_n hx hb dX0_use_62 rfl (lv_at hl 3 rfl) ?_
      have J86_9 : ∀ (z_8 : Nat → Int32) (hz_8 : z_8 = (if (if ((w 1) i.toNatClampNeg) < mid then (0 : Int32) else (1 : Int32)) = tk then (upd (w 4) i.toNatClampNeg (((w 4) i.toNatClampNeg) + (1 : Int32))) else (w 4))) (z_9 : Int32) (hz_9 : z_9 = (if (if ((w 1) i.toNatClampNeg) < mid then (0 : Int32) else (1 : Int32)) = tk then ((w 7 0) + (1 : Int32)) else (w 7 0))) (H : Heap) (locs : List Loc), va_P D vwCl (cD cy a (mkD (w 0) (w 1) (upd (w 2) i.toNatClampNeg pl) (upd (w 3) i.toNatClampNeg (((w 3) i.toNatClampNeg) + (1 : Int32))) z_8 (w 5) (if ((w 3) i.toNatClampNeg) ≤ 0 then (w 6 0) else (if ((w 2) i.toNatClampNeg) = pl then (w 6 0) else ((w 6 0) + (1 : Int32)))) z_9)) H → va_D A (cD cy a (mkD (w 0) (w 1) (upd (w 2) i.toNatClampNeg pl) (upd (w 3) i.toNatClampNeg (((w 3) i.toNatClampNeg) + (1 : Int32))) z_8 (w 5) (if ((w 3) i.toNatClampNeg) ≤ 0 then (w 6 0) else (if ((w 2) i.toNatClampNeg) = pl then (w 6 0) else ((w 6 0) + (1 : Int32)))) z_9)) → va_S A s.heap H locs → ∀ ls : Array Slot, lv_has ls 5 [(0, .ref (a 0)), (1, .int i), (2, .int pl), (3, .int tk), (4, .int mid)] → W pp l e rX0_use s m ([.ref (a 0), .int i, .int pl, .int tk, .int mid] : List Value).toArray below meth c H locs 0 0 Q (F0 m 86 ls []) := by
        intro z_8 hz_8 z_9 hz_9 H locs hP hD hS ls hl
        subst hz_8
        subst hz_9
        refine lv_iload_n hx hb dX0_use_86 rfl (lv_at hl 3 rfl) ?_
        have J134_12 : ∀ (z_12 : Nat → Int32) (hz_12 : z_12 = (if tk = 0 then (upd (w 1) i.toNatClampNeg (if (((w 1) i.toNatClampNeg) - (1 : Int32)) < (0 : Int32) then (0 : Int32) else (((w 1) i.toNatClampNeg) - (1 : Int32)))) else (upd (w 1) i.toNatClampNeg (if (((2 : Int32) * mid) - (1 : Int32)) < (((w 1) i.toNatClampNeg) + (1 : Int32)) then (((2 : Int32) * mid) - (1 : Int32)) else (((w 1) i.toNatClampNeg) + (1 : Int32)))))) (H : Heap) (locs : List Loc), va_P D vwCl (cD cy a (mkD (w 0) z_12 (upd (w 2) i.toNatClampNeg pl) (upd (w 3) i.toNatClampNeg (((w 3) i.toNatClampNeg) + (1 : Int32))) (if (if ((w 1) i.toNatClampNeg) < mid then (0 : Int32) else (1 : Int32)) = tk then (upd (w 4) i.toNatClampNeg (((w 4) i.toNatClampNeg) + (1 : Int32))) else (w 4)) (w 5) (if ((w 3) i.toNatClampNeg) ≤ 0 then (w 6 0) else (if ((w 2) i.toNatClampNeg) = pl then (w 6 0) else ((w 6 0) + (1 : Int32)))) (if (if ((w 1) i.toNatClampNeg) < mid then (0 : Int32) else (1 : Int32)) = tk then ((w 7 0) + (1 : Int32)) else (w 7 0)))) H → va_D A (cD cy a (mkD (w 0) z_12 (upd (w 2) i.toNatClampNeg pl) (upd (w 3) i.toNatClampNeg (((w 3) i.toNatClampNeg) + (1 : Int32))) (if (if ((w 1) i.toNatClampNeg) < mid then (0 : Int32) else (1 : Int32)) = tk then (upd (w 4) i.toNatClampNeg (((w 4) i.toNatClampNeg) + (1 : Int32))) else (w 4)) (w 5) (if ((w 3) i.toNatClampNeg) ≤ 0 then (w 6 0) else (if ((w 2) i.toNatClampNeg) = pl then (w 6 0) else ((w 6 0) + (1 : Int32)))) (if (if ((w 1) i.toNatClampNeg) < mid then (0 : Int32) else (1 : Int32)) = tk then ((w 7 0) + (1 : Int32)) else (w 7 0)))) → va_S A s.heap H locs → ∀ ls : Array Slot, lv_has ls 5 [(0, .ref (a 0)), (1, .int i), (2, .int pl), (3, .int tk), (4, .int mid)] → W pp l e rX0_use s m ([.ref (a 0), .int i, .int pl, .int tk, .int mid] : List Value).toArray below meth c H locs 0 0 Q (F0 m 134 ls []) := by
          intro z_12 hz_12 H locs hP hD hS ls hl
          subst hz_12
          have hw9 : (w_X0_use w i pl tk mid) = (mkD (w 0) (if tk = 0 then (upd (w 1) i.toNatClampNeg (if (((w 1) i.toNatClampNeg) - (1 : Int32)) < (0 : Int32) then (0 : Int32) else (((w 1) i.toNatClampNeg) - (1 : Int32)))) else (upd (w 1) i.toNatClampNeg (if (((2 : Int32) * mid) - (1 : Int32)) < (((w 1) i.toNatClampNeg) + (1 : Int32)) then (((2 : Int32) * mid) - (1 : Int32)) else (((w 1) i.toNatClampNeg) + (1 : Int32))))) (upd (w 2) i.toNatClampNeg pl) (upd (w 3) i.toNatClampNeg (((w 3) i.toNatClampNeg) + (1 : Int32))) (if (if ((w 1) i.toNatClampNeg) < mid then (0 : Int32) else (1 : Int32)) = tk then (upd (w 4) i.toNatClampNeg (((w 4) i.toNatClampNeg) + (1 : Int32))) else (w 4)) (w 5) (if ((w 3) i.toNatClampNeg) ≤ 0 then (w 6 0) else (if ((w 2) i.toNatClampNeg) = pl then (w 6 0) else ((w 6 0) + (1 : Int32)))) (if (if ((w 1) i.toNatClampNeg) < mid then (0 : Int32) else (1 : Int32)) = tk then ((w 7 0) + (1 : Int32)) else (w 7 0))) := by rfl
          exact hret H locs _ ls (by rw [hw9]; exact hP) (by rw [hw9]; exact hD) hS dX0_use_134
        refine lv_if_eq (tgt := 116) hx hb dX0_use_87 (by decide) (fun c_11 => ?_) (fun c_11 => ?_)
        · refine lv_aload_n hx hb dX0_use_116 rfl (lv_at hl 0 rfl) ?_
          refine va_get (D := D) (ci := 0) (v := .ref (a 2)) (C := RX0) (T := TX0) (N := 8) hx hb hts inX0_use_X0 hown hK hP 0 rfl rfl 1 (by decide) (hts _ (List.mem_of_getElem? (i := 4) rfl)) (fun _ h9 => h9) rfl dX0_use_117 ?_
          refine lv_iload_n hx hb dX0_use_120 rfl (lv_at hl 1 rfl) ?_
          refine lv_aload_n hx hb dX0_use_121 rfl (lv_at hl 0 rfl) ?_
          refine va_get (D := D) (ci := 0) (v := .ref (a 2)) (C := RX0) (T := TX0) (N := 8) hx hb hts inX0_use_X0 hown hK hP 0 rfl rfl 1 (by decide) (hts _ (List.mem_of_getElem? (i := 4) rfl)) (fun _ h9 => h9) rfl dX0_use_122 ?_
          refine lv_iload_n hx hb dX0_use_125 rfl (lv_at hl 1 rfl) ?_
          refine x_iald (f := (w 1)) (j := i.toNatClampNeg) hx hb hK hP 2 0 rfl rfl rfl hi dX0_use_126 ?_
          refine lv_iconst (v := 1) hx hb dX0_use_127 (by decide) ?_
          refine lv_isub hx hb dX0_use_128 ?_
          refine lv_iconst (v := 0) hx hb dX0_use_129 (by decide) ?_
          refine va_mmax hx hb (hml.trans hl.1.symm) hown (hts _ (List.mem_of_getElem? (i := 11) rfl)) (hts _ (List.mem_of_getElem? (i := 12) rfl)) (hts _ (List.mem_of_getElem? (i := 9) rfl)) (hts _ (List.mem_of_getElem? (i := 13) rfl)) (Nat.le_of_ble_eq_true rfl) (Nat.le_of_ble_eq_true rfl) (Nat.le_of_ble_eq_true rfl) (Nat.le_of_ble_eq_true rfl) dX0_use_130 ?_
          refine x_iast (j := i.toNatClampNeg) hx hb hK hP hD hS 2 0 rfl rfl rfl hi dX0_use_133 (fun H locs hP hD hS => ?_)
          have hP : va_P D vwCl (cD cy a (mkD (w 0) (upd (w 1) i.toNatClampNeg (if (((w 1) i.toNatClampNeg) - (1 : Int32)) < (0 : Int32) then (0 : Int32) else (((w 1) i.toNatClampNeg) - (1 : Int32)))) (upd (w 2) i.toNatClampNeg pl) (upd (w 3) i.toNatClampNeg (((w 3) i.toNatClampNeg) + (1 : Int32))) (if (if ((w 1) i.toNatClampNeg) < mid then (0 : Int32) else (1 : Int32)) = tk then (upd (w 4) i.toNatClampNeg (((w 4) i.toNatClampNeg) + (1 : Int32))) else (w 4)) (w 5) (if ((w 3) i.toNatClampNeg) ≤ 0 then (w 6 0) else (if ((w 2) i.toNatClampNeg) = pl then (w 6 0) else ((w 6 0) + (1 : Int32)))) (if (if ((w 1) i.toNatClampNeg) < mid then (0 : Int32) else (1 : Int32)) = tk then ((w 7 0) + (1 : Int32)) else (w 7 0)))) H := hP
          have hD : va_D A (cD cy a (mkD (w 0) (upd (w 1) i.toNatClampNeg (if (((w 1) i.toNatClampNeg) - (1 : Int32)) < (0 : Int32) then (0 : Int32) else (((w 1) i.toNatClampNeg) - (1 : Int32)))) (upd (w 2) i.toNatClampNeg pl) (upd (w 3) i.toNatClampNeg (((w 3) i.toNatClampNeg) + (1 : Int32))) (if (if ((w 1) i.toNatClampNeg) < mid then (0 : Int32) else (1 : Int32)) = tk then (upd (w 4) i.toNatClampNeg (((w 4) i.toNatClampNeg) + (1 : Int32))) else (w 4)) (w 5) (if ((w 3) i.toNatClampNeg) ≤ 0 then (w 6 0) else (if ((w 2) i.toNatClampNeg) = pl then (w 6 0) else ((w 6 0) + (1 : Int32)))) (if (if ((w 1) i.toNatClampNeg) < mid then (0 : Int32) else (1 : Int32)) = tk then ((w 7 0) + (1 : Int32)) else (w 7 0)))) := hD
          exact J134_12 (upd (w 1) i.toNatClampNeg (if (((w 1) i.toNatClampNeg) - (1 : Int32)) < (0 : Int32) then (0 : Int32) else (((w 1) i.toNatClampNeg) - (1 : Int32)))) (by simp only [if_pos c_11]) H locs hP hD hS ls (lv_sub hl [0, 1, 2, 3, 4] rfl)
        · refine lv_aload_n hx hb dX0_use_90 rfl (lv_at hl 0 rfl) ?_
          refine va_get (D := D) (ci := 0) (v := .ref (a 2)) (C := RX0) (T := TX0) (N := 8) hx hb hts inX0_use_X0 hown hK hP 0 rfl rfl 1 (by decide) (hts _ (List.mem_of_getElem? (i := 4) rfl)) (fun _ h9 => h9) rfl dX0_use_91 ?_
          refine lv_iload_n hx hb dX0_use_94 rfl (lv_at hl 1 rfl) ?_
          refine lv_aload_n hx hb dX0_use_95 rfl (lv_at hl 0 rfl) ?_
          refine va_get (D := D) (ci := 0) (v := .ref (a 2)) (C := RX0) (T := TX0) (N := 8) hx hb hts inX0_use_X0 hown hK hP 0 rfl rfl 1 (by decide) (hts _ (List.mem_of_getElem? (i := 4) rfl)) (fun _ h9 => h9) rfl dX0_use_96 ?_
          refine lv_iload_n hx hb dX0_use_99 rfl (lv_at hl 1 rfl) ?_
          refine x_iald (f := (w 1)) (j := i.toNatClampNeg) hx hb hK hP 2 0 rfl rfl rfl hi dX0_use_100 ?_
          refine lv_iconst (v := 1) hx hb dX0_use_101 (by decide) ?_
          refine lv_iadd hx hb dX0_use_102 ?_
          refine lv_iconst (v := 2) hx hb dX0_use_103 (by decide) ?_
          refine lv_iload hx hb dX0_use_104 (lv_at hl 4 rfl) ?_
          refine lv_imul hx hb dX0_use_106 ?_
          refine lv_iconst (v := 1) hx hb dX0_use_107 (by decide) ?_
          refine lv_isub hx hb dX0_use_108 ?_
          refine va_mmin hx hb (hml.trans hl.1.symm) hown (hts _ (List.mem_of_getElem? (i := 7) rfl)) (hts _ (List.mem_of_getElem? (i := 8) rfl)) (hts _ (List.mem_of_getElem? (i := 9) rfl)) (hts _ (List.mem_of_getElem? (i := 10) rfl)) (Nat.le_of_ble_eq_true rfl) (Nat.le_of_ble_eq_true rfl) (Nat.le_of_ble_eq_true rfl) (Nat.le_of_ble_eq_true rfl) dX0_use_109 ?_
          refine x_iast (j := i.toNatClampNeg) hx hb hK hP hD hS 2 0 rfl rfl rfl hi dX0_use_112 (fun H locs hP hD hS => ?_)
          have hP : va_P D vwCl (cD cy a (mkD (w 0) (upd (w 1) i.toNatClampNeg (if (((2 : Int32) * mid) - (1 : Int32)) < (((w 1) i.toNatClampNeg) + (1 : Int32)) then (((2 : Int32) * mid) - (1 : Int32)) else (((w 1) i.toNatClampNeg) + (1 : Int32)))) (upd (w 2) i.toNatClampNeg pl) (upd (w 3) i.toNatClampNeg (((w 3) i.toNatClampNeg) + (1 : Int32))) (if (if ((w 1) i.toNatClampNeg) < mid then (0 : Int32) else (1 : Int32)) = tk then (upd (w 4) i.toNatClampNeg (((w 4) i.toNatClampNeg) + (1 : Int32))) else (w 4)) (w 5) (if ((w 3) i.toNatClampNeg) ≤ 0 then (w 6 0) else (if ((w 2) i.toNatClampNeg) = pl then (w 6 0) else ((w 6 0) + (1 : Int32)))) (if (if ((w 1) i.toNatClampNeg) < mid then (0 : Int32) else (1 : Int32)) = tk then ((w 7 0) + (1 : Int32)) else (w 7 0)))) H := hP
          have hD : va_D A (cD cy a (mkD (w 0) (upd (w 1) i.toNatClampNeg (if (((2 : Int32) * mid) - (1 : Int32)) < (((w 1) i.toNatClampNeg) + (1 : Int32)) then (((2 : Int32) * mid) - (1 : Int32)) else (((w 1) i.toNatClampNeg) + (1 : Int32)))) (upd (w 2) i.toNatClampNeg pl) (upd (w 3) i.toNatClampNeg (((w 3) i.toNatClampNeg) + (1 : Int32))) (if (if ((w 1) i.toNatClampNeg) < mid then (0 : Int32) else (1 : Int32)) = tk then (upd (w 4) i.toNatClampNeg (((w 4) i.toNatClampNeg) + (1 : Int32))) else (w 4)) (w 5) (if ((w 3) i.toNatClampNeg) ≤ 0 then (w 6 0) else (if ((w 2) i.toNatClampNeg) = pl then (w 6 0) else ((w 6 0) + (1 : Int32)))) (if (if ((w 1) i.toNatClampNeg) < mid then (0 : Int32) else (1 : Int32)) = tk then ((w 7 0) + (1 : Int32)) else (w 7 0)))) := hD
          refine lv_goto (tgt := 134) hx hb dX0_use_113 (by decide) ?_
          exact J134_12 (upd (w 1) i.toNatClampNeg (if (((2 : Int32) * mid) - (1 : Int32)) < (((w 1) i.toNatClampNeg) + (1 : Int32)) then (((2 : Int32) * mid) - (1 : Int32)) else (((w 1) i.toNatClampNeg) + (1 : Int32)))) (by simp only [if_neg c_11]) H locs hP hD hS ls (lv_sub hl [0, 1, 2, 3, 4] rfl)
      refine lv_icmp_ne (tgt := 86) hx hb dX0_use_63 (by decide) (fun c_7 => ?_) (fun c_7 => ?_)
      · exact J86_9 (w 4) (by simp only [if_neg c_7]) (w 7 0) (by simp only [if_neg c_7]) H locs hP hD hS ls (lv_sub hl [0, 1, 2, 3, 4] rfl)
      · refine lv_aload_n hx hb dX0_use_66 rfl (lv_at hl 0 rfl) ?_
        refine va_get (D := D) (ci := 0) (v := .ref (a 5)) (C := RX0) (T := TX0) (N := 8) hx hb hts inX0_use_X0 hown hK hP 0 rfl rfl 4 (by decide) (hts _ (List.mem_of_getElem? (i := 5) rfl)) (fun _ h9 => h9) rfl dX0_use_67 ?_
        refine lv_iload_n hx hb dX0_use_70 rfl (lv_at hl 1 rfl) ?_
        refine lv_dup2_11 hx hb dX0_use_71 rfl rfl ?_
        refine x_iald (f := (w 4)) (j := i.toNatClampNeg) hx hb hK hP 5 0 rfl rfl rfl hi dX0_use_72 ?_
        refine lv_iconst (v := 1) hx hb dX0_use_73 (by decide) ?_
        refine lv_iadd hx hb dX0_use_74 ?_
        refine x_iast (j := i.toNatClampNeg) hx hb hK hP hD hS 5 0 rfl rfl rfl hi dX0_use_75 (fun H locs hP hD hS => ?_)
        have hP : va_P D vwCl (cD cy a (mkD (w 0) (w 1) (upd (w 2) i.toNatClampNeg pl) (upd (w 3) i.toNatClampNeg (((w 3) i.toNatClampNeg) + (1 : Int32))) (upd (w 4) i.toNatClampNeg (((w 4) i.toNatClampNeg) + (1 : Int32))) (w 5) (if ((w 3) i.toNatClampNeg) ≤ 0 then (w 6 0) else (if ((w 2) i.toNatClampNeg) = pl then (w 6 0) else ((w 6 0) + (1 : Int32)))) (w 7 0))) H := hP
        have hD : va_D A (cD cy a (mkD (w 0) (w 1) (upd (w 2) i.toNatClampNeg pl) (upd (w 3) i.toNatClampNeg (((w 3) i.toNatClampNeg) + (1 : Int32))) (upd (w 4) i.toNatClampNeg (((w 4) i.toNatClampNeg) + (1 : Int32))) (w 5) (if ((w 3) i.toNatClampNeg) ≤ 0 then (w 6 0) else (if ((w 2) i.toNatClampNeg) = pl then (w 6 0) else ((w 6 0) + (1 : Int32)))) (w 7 0))) := hD
        refine lv_aload_n hx hb dX0_use_76 rfl (lv_at hl 0 rfl) ?_
        refine lv_dup hx hb dX0_use_77 rfl ?_
        refine va_get (D := D) (ci := 0) (v := .int (w 7 0)) (C := RX0) (T := TX0) (N := 8) hx hb hts inX0_use_X0 hown hK hP 0 rfl rfl 7 (by decide) (hts _ (List.mem_of_getElem? (i := 6) rfl)) (fun _ h9 => h9) rfl dX0_use_78 ?_
        refine lv_iconst (v := 1) hx hb dX0_use_81 (by decide) ?_
        refine lv_iadd hx hb dX0_use_82 ?_
        refine va_put (D := D) (ci := 0) (v := .int ((w 7 0) + (1 : Int32))) (ty := .int) (C := RX0) (T := TX0) (N := 8) hx hb hts inX0_use_X0 tyX0 tyX0_ok nmX0 hown hK hP hD hS 0 rfl rfl 7 (by decide) (hts _ (List.mem_of_getElem? (i := 6) rfl)) (fun _ h9 => h9) rfl (by decide +kernel) rfl rfl (Nat.le_of_ble_eq_true rfl) dX0_use_83 (fun H locs hP hD hS => ?_)
        have hP : va_P D vwCl (cD cy a (mkD (w 0) (w 1) (upd (w 2) i.toNatClampNeg pl) (upd (w 3) i.toNatClampNeg (((w 3) i.toNatClampNeg) + (1 : Int32))) (upd (w 4) i.toNatClampNeg (((w 4) i.toNatClampNeg) + (1 : Int32))) (w 5) (if ((w 3) i.toNatClampNeg) ≤ 0 then (w 6 0) else (if ((w 2) i.toNatClampNeg) = pl then (w 6 0) else ((w 6 0) + (1 : Int32)))) ((w 7 0) + (1 : Int32)))) H := hP
        have hD : va_D A (cD cy a (mkD (w 0) (w 1) (upd (w 2) i.toNatClampNeg pl) (upd (w 3) i.toNatClampNeg (((w 3) i.toNatClampNeg) + (1 : Int32))) (upd (w 4) i.toNatClampNeg (((w 4) i.toNatClampNeg) + (1 : Int32))) (w 5) (if ((w 3) i.toNatClampNeg) ≤ 0 then (w 6 0) else (if ((w 2) i.toNatClampNeg) = pl then (w 6 0) else ((w 6 0) + (1 : Int32)))) ((w 7 0) + (1 : Int32)))) := hD
        exact J86_9 (upd (w 4) i.toNatClampNeg (((w 4) i.toNatClampNeg) + (1 : Int32))) (by simp only [if_pos c_7]) ((w 7 0) + (1 : Int32)) (by simp only [if_pos c_7]) H locs hP hD hS ls (lv_sub hl [0, 1, 2, 3, 4] rfl)
    refine lv_icmp_lt (tgt := 61) hx hb dX0_use_54 (by decide) (fun c_4 => ?_) (fun c_4 => ?_)
    · refine lv_iconst (v := 0) hx hb dX0_use_61 (by decide) ?_
      exact J62_5 (0 : Int32) (by simp only [if_pos c_4]) H locs hP hD hS ls (lv_sub hl [0, 1, 2, 3, 4] rfl)
    · refine lv_iconst (v := 1) hx hb dX0_use_57 (by decide) ?_
      refine lv_goto (tgt := 62) hx hb dX0_use_58 (by decide) ?_
      exact J62_5 (1 : Int32) (by simp only [if_neg c_4]) H locs hP hD hS ls (lv_sub hl [0, 1, 2, 3, 4] rfl)
  refine lv_if_le (tgt := 29) hx hb dX0_use_6 (by decide) (fun c_1 => ?_) (fun c_1 => ?_)
  · exact J29_2 (w 6 0) (by simp only [if_pos c_1]) H locs hP hD hS ls (lv_sub hl [0, 1, 2, 3, 4] rfl)
  · refine lv_aload_n hx hb dX0_use_9 rfl (lv_at hl 0 rfl) ?_
    refine va_get (D := D) (ci := 0) (v := .ref (a 3)) (C := RX0) (T := TX0) (N := 8) hx hb hts inX0_use_X0 hown hK hP 0 rfl rfl 2 (by decide) (hts _ (List.mem_of_getElem? (i := 2) rfl)) (fun _ h9 => h9) rfl dX0_use_10 ?_
    refine lv_iload_n hx hb dX0_use_13 rfl (lv_at hl 1 rfl) ?_
    refine x_iald (f := (w 2)) (j := i.toNatClampNeg) hx hb hK hP 3 0 rfl rfl rfl hi dX0_use_14 ?_
    refine lv_iload_n hx hb dX0_use_15 rfl (lv_at hl 2 rfl) ?_
    refine lv_icmp_eq (tgt := 29) hx hb dX0_use_16 (by decide) (fun c_14 => ?_) (fun c_14 => ?_)
    · exact J29_2 (w 6 0) (by simp only [if_neg c_1, if_pos c_14]) H locs hP hD hS ls (lv_sub hl [0, 1, 2, 3, 4] rfl)
    · refine lv_aload_n hx hb dX0_use_19 rfl (lv_at hl 0 rfl) ?_
      refine lv_dup hx hb dX0_use_20 rfl ?_
      refine va_get (D := D) (ci := 0) (v := .int (w 6 0)) (C := RX0) (T := TX0) (N := 8) hx hb hts inX0_use_X0 hown hK hP 0 rfl rfl 6 (by decide) (hts _ (List.mem_of_getElem? (i := 3) rfl)) (fun _ h9 => h9) rfl dX0_use_21 ?_
      refine lv_iconst (v := 1) hx hb dX0_use_24 (by decide) ?_
      refine lv_iadd hx hb dX0_use_25 ?_
      refine va_put (D := D) (ci := 0) (v := .int ((w 6 0) + (1 : Int32))) (ty := .int) (C := RX0) (T := TX0) (N := 8) hx hb hts inX0_use_X0 tyX0 tyX0_ok nmX0 hown hK hP hD hS 0 rfl rfl 6 (by decide) (hts _ (List.mem_of_getElem? (i := 3) rfl)) (fun _ h9 => h9) rfl (by decide +kernel) rfl rfl (Nat.le_of_ble_eq_true rfl) dX0_use_26 (fun H locs hP hD hS => ?_)
      have hP : va_P D vwCl (cD cy a (mkD (w 0) (w 1) (w 2) (w 3) (w 4) (w 5) ((w 6 0) + (1 : Int32)) (w 7 0))) H := hP
      have hD : va_D A (cD cy a (mkD (w 0) (w 1) (w 2) (w 3) (w 4) (w 5) ((w 6 0) + (1 : Int32)) (w 7 0))) := hD
      exact J29_2 ((w 6 0) + (1 : Int32)) (by simp only [if_neg c_1, if_neg c_14]) H locs hP hD hS ls (lv_sub hl [0, 1, 2, 3, 4] rfl)

def w_X0_beginAnew (w : RV) (mid : Int32) : RV := (mkD (w 0) (fun _ => (mid - (1 : Int32))) (fun _ => (-99999 : Int32)) (fun _ => (0 : Int32)) (fun _ => (0 : Int32)) (fun _ => (0 : Int32)) (0 : Int32) (0 : Int32))
abbrev rX0_beginAnew : Room := { frames := 1, cells := 0, slots := 0, locals := 23 }
theorem inX0_beginAnew_X0 : ∀ w ∈ u_ws RX0 TX0 8, w ∈ wsX0_beginAnew := by decide +kernel
set_option maxHeartbeats 4000000 in
set_option maxRecDepth 100000 in
theorem c_X0_beginAnew (l : Launch) (D : va_G) (cy : Nat → ClassId) (a : Nat → Nat) (w : RV) (mid : Int32) (sz : Nat)  : CN l yX0_beginAnew wsX0_beginAnew rX0_beginAnew D cy [.ref (a 0), .int mid] (cD cy a w) sz (cD cy a (w_X0_beginAnew w mid)) 0 0 := by
  refine st_n (cc := cX0_beginAnew) (maxL := 2) (by decide) rfl (Nat.le_of_ble_eq_true rfl) ?_
  intro pp e s m below meth c A Q ls hx hb hts hown hml hlocks hsz hP hK hD hE hA hl hret
  subst hsz
  have hown : s.vm.findClass RX0 = some m.cls := hown
  have hl : lv_has ls 2 [(0, .ref (a 0)), (1, .int mid)] := hl
  obtain ⟨H, hH⟩ : ∃ H, H = s.heap := ⟨_, rfl⟩
  rw [← hH] at hP ⊢
  have hS : va_S A s.heap H [] := by rw [hH]; exact va_S.rf
  obtain ⟨locs, hlo⟩ : ∃ locs : List Loc, locs = [] := ⟨_, rfl⟩
  rw [← hlo] at hS ⊢
  refine lv_aload_n hx hb dX0_beginAnew_0 rfl (lv_at hl 0 rfl) ?_
  refine va_get (D := D) (ci := 0) (v := .ref (a 2)) (C := RX0) (T := TX0) (N := 8) hx hb hts inX0_beginAnew_X0 hown hK hP 0 rfl rfl 1 (by decide) (hts _ (List.mem_of_getElem? (i := 1) rfl)) (fun _ h9 => h9) rfl dX0_beginAnew_1 ?_
  refine lv_iload_n hx hb dX0_beginAnew_4 rfl (lv_at hl 1 rfl) ?_
  refine lv_iconst (v := 1) hx hb dX0_beginAnew_5 (by decide) ?_
  refine lv_isub hx hb dX0_beginAnew_6 ?_
  refine x_fill (n := 64) ⟨hx, hb, hml, hown, hts⟩ (va_cwS 2 hts gX0_beginAnew_J7_fill_53178 rfl rfl rfl (by decide +kernel) ⟨Nat.le_of_ble_eq_true rfl, Nat.le_of_ble_eq_true rfl⟩) hK hP hD hS hA hE 2 rfl (by decide) hl.1 (lv_room (Nat.le_of_ble_eq_true rfl)) dX0_beginAnew_7 ⟨Nat.le_of_ble_eq_true rfl, Nat.le_of_ble_eq_true rfl⟩ (fun H locs hP hD hS => ?_)
  have hP : va_P D vwCl (cD cy a (mkD (w 0) (fun _ => (mid - (1 : Int32))) (w 2) (w 3) (w 4) (w 5) (w 6 0) (w 7 0))) H := hP
  have hD : va_D A (cD cy a (mkD (w 0) (fun _ => (mid - (1 : Int32))) (w 2) (w 3) (w 4) (w 5) (w 6 0) (w 7 0))) := hD
  refine lv_aload_n hx hb dX0_beginAnew_10 rfl (lv_at hl 0 rfl) ?_
  refine va_get (D := D) (ci := 0) (v := .ref (a 3)) (C := RX0) (T := TX0) (N := 8) hx hb hts inX0_beginAnew_X0 hown hK hP 0 rfl rfl 2 (by decide) (hts _ (List.mem_of_getElem? (i := 2) rfl)) (fun _ h9 => h9) rfl dX0_beginAnew_11 ?_
  refine lv_ldc (v := (-99999)) hx hb hown (hts _ (List.mem_of_getElem? (i := 3) rfl)) dX0_beginAnew_14 ?_
  refine x_fill (n := 64) ⟨hx, hb, hml, hown, hts⟩ (va_cwS 2 hts gX0_beginAnew_J7_fill_53178 rfl rfl rfl (by decide +kernel) ⟨Nat.le_of_ble_eq_true rfl, Nat.le_of_ble_eq_true rfl⟩) hK hP hD hS hA hE 3 rfl (by decide) hl.1 (lv_room (Nat.le_of_ble_eq_true rfl)) dX0_beginAnew_16 ⟨Nat.le_of_ble_eq_true rfl, Nat.le_of_ble_eq_true rfl⟩ (fun H locs hP hD hS => ?_)
  have hP : va_P D vwCl (cD cy a (mkD (w 0) (fun _ => (mid - (1 : Int32))) (fun _ => (-99999 : Int32)) (w 3) (w 4) (w 5) (w 6 0) (w 7 0))) H := hP
  have hD : va_D A (cD cy a (mkD (w 0) (fun _ => (mid - (1 : Int32))) (fun _ => (-99999 : Int32)) (w 3) (w 4) (w 5) (w 6 0) (w 7 0))) := hD
  refine lv_aload_n hx hb dX0_beginAnew_19 rfl (lv_at hl 0 rfl) ?_
  refine va_get (D := D) (ci := 0) (v := .ref (a 4)) (C := RX0) (T := TX0) (N := 8) hx hb hts inX0_beginAnew_X0 hown hK hP 0 rfl rfl 3 (by decide) (hts _ (List.mem_of_getElem? (i := 4) rfl)) (fun _ h9 => h9) rfl dX0_beginAnew_20 ?_
  refine lv_iconst (v := 0) hx hb dX0_beginAnew_23 (by decide) ?_
  refine x_fill (n := 64) ⟨hx, hb, hml, hown, hts⟩ (va_cwS 2 hts gX0_beginAnew_J7_fill_53178 rfl rfl rfl (by decide +kernel) ⟨Nat.le_of_ble_eq_true rfl, Nat.le_of_ble_eq_true rfl⟩) hK hP hD hS hA hE 4 rfl (by decide) hl.1 (lv_room (Nat.le_of_ble_eq_true rfl)) dX0_beginAnew_24 ⟨Nat.le_of_ble_eq_true rfl, Nat.le_of_ble_eq_true rfl⟩ (fun H locs hP hD hS => ?_)
  have hP : va_P D vwCl (cD cy a (mkD (w 0) (fun _ => (mid - (1 : Int32))) (fun _ => (-99999 : Int32)) (fun _ => (0 : Int32)) (w 4) (w 5) (w 6 0) (w 7 0))) H := hP
  have hD : va_D A (cD cy a (mkD (w 0) (fun _ => (mid - (1 : Int32))) (fun _ => (-99999 : Int32)) (fun _ => (0 : Int32)) (w 4) (w 5) (w 6 0) (w 7 0))) := hD
  refine lv_aload_n hx hb dX0_beginAnew_27 rfl (lv_at hl 0 rfl) ?_
  refine va_get (D := D) (ci := 0) (v := .ref (a 5)) (C := RX0) (T := TX0) (N := 8) hx hb hts inX0_beginAnew_X0 hown hK hP 0 rfl rfl 4 (by decide) (hts _ (List.mem_of_getElem? (i := 5) rfl)) (fun _ h9 => h9) rfl dX0_beginAnew_28 ?_
  refine lv_iconst (v := 0) hx hb dX0_beginAnew_31 (by decide) ?_
  refine x_fill (n := 64) ⟨hx, hb, hml, hown, hts⟩ (va_cwS 2 hts gX0_beginAnew_J7_fill_53178 rfl rfl rfl (by decide +kernel) ⟨Nat.le_of_ble_eq_true rfl, Nat.le_of_ble_eq_true rfl⟩) hK hP hD hS hA hE 5 rfl (by decide) hl.1 (lv_room (Nat.le_of_ble_eq_true rfl)) dX0_beginAnew_32 ⟨Nat.le_of_ble_eq_true rfl, Nat.le_of_ble_eq_true rfl⟩ (fun H locs hP hD hS => ?_)
  have hP : va_P D vwCl (cD cy a (mkD (w 0) (fun _ => (mid - (1 : Int32))) (fun _ => (-99999 : Int32)) (fun _ => (0 : Int32)) (fun _ => (0 : Int32)) (w 5) (w 6 0) (w 7 0))) H := hP
  have hD : va_D A (cD cy a (mkD (w 0) (fun _ => (mid - (1 : Int32))) (fun _ => (-99999 : Int32)) (fun _ => (0 : Int32)) (fun _ => (0 : Int32)) (w 5) (w 6 0) (w 7 0))) := hD
  refine lv_aload_n hx hb dX0_beginAnew_35 rfl (lv_at hl 0 rfl) ?_
  refine va_get (D := D) (ci := 0) (v := .ref (a 6)) (C := RX0) (T := TX0) (N := 8) hx hb hts inX0_beginAnew_X0 hown hK hP 0 rfl rfl 5 (by decide) (hts _ (List.mem_of_getElem? (i := 6) rfl)) (fun _ h9 => h9) rfl dX0_beginAnew_36 ?_
  refine lv_iconst (v := 0) hx hb dX0_beginAnew_39 (by decide) ?_
  refine x_fill (n := 26) ⟨hx, hb, hml, hown, hts⟩ (va_cwS 2 hts gX0_beginAnew_J7_fill_53178 rfl rfl rfl (by decide +kernel) ⟨Nat.le_of_ble_eq_true rfl, Nat.le_of_ble_eq_true rfl⟩) hK hP hD hS hA hE 6 rfl (by decide) hl.1 (lv_room (Nat.le_of_ble_eq_true rfl)) dX0_beginAnew_40 ⟨Nat.le_of_ble_eq_true rfl, Nat.le_of_ble_eq_true rfl⟩ (fun H locs hP hD hS => ?_)
  have hP : va_P D vwCl (cD cy a (mkD (w 0) (fun _ => (mid - (1 : Int32))) (fun _ => (-99999 : Int32)) (fun _ => (0 : Int32)) (fun _ => (0 : Int32)) (fun _ => (0 : Int32)) (w 6 0) (w 7 0))) H := hP
  have hD : va_D A (cD cy a (mkD (w 0) (fun _ => (mid - (1 : Int32))) (fun _ => (-99999 : Int32)) (fun _ => (0 : Int32)) (fun _ => (0 : Int32)) (fun _ => (0 : Int32)) (w 6 0) (w 7 0))) := hD
  refine lv_aload_n hx hb dX0_beginAnew_43 rfl (lv_at hl 0 rfl) ?_
  refine lv_iconst (v := 0) hx hb dX0_beginAnew_44 (by decide) ?_
  refine va_put (D := D) (ci := 0) (v := .int (0 : Int32)) (ty := .int) (C := RX0) (T := TX0) (N := 8) hx hb hts inX0_beginAnew_X0 tyX0 tyX0_ok nmX0 hown hK hP hD hS 0 rfl rfl 6 (by decide) (hts _ (List.mem_of_getElem? (i := 7) rfl)) (fun _ h9 => h9) rfl (by decide +kernel) rfl rfl (Nat.le_of_ble_eq_true rfl) dX0_beginAnew_45 (fun H locs hP hD hS => ?_)
  have hP : va_P D vwCl (cD cy a (mkD (w 0) (fun _ => (mid - (1 : Int32))) (fun _ => (-99999 : Int32)) (fun _ => (0 : Int32)) (fun _ => (0 : Int32)) (fun _ => (0 : Int32)) (0 : Int32) (w 7 0))) H := hP
  have hD : va_D A (cD cy a (mkD (w 0) (fun _ => (mid - (1 : Int32))) (fun _ => (-99999 : Int32)) (fun _ => (0 : Int32)) (fun _ => (0 : Int32)) (fun _ => (0 : Int32)) (0 : Int32) (w 7 0))) := hD
  refine lv_aload_n hx hb dX0_beginAnew_48 rfl (lv_at hl 0 rfl) ?_
  refine lv_iconst (v := 0) hx hb dX0_beginAnew_49 (by decide) ?_
  refine va_put (D := D) (ci := 0) (v := .int (0 : Int32)) (ty := .int) (C := RX0) (T := TX0) (N := 8) hx hb hts inX0_beginAnew_X0 tyX0 tyX0_ok nmX0 hown hK hP hD hS 0 rfl rfl 7 (by decide) (hts _ (List.mem_of_getElem? (i := 8) rfl)) (fun _ h9 => h9) rfl (by decide +kernel) rfl rfl (Nat.le_of_ble_eq_true rfl) dX0_beginAnew_50 (fun H locs hP hD hS => ?_)
  have hP : va_P D vwCl (cD cy a (mkD (w 0) (fun _ => (mid - (1 : Int32))) (fun _ => (-99999 : Int32)) (fun _ => (0 : Int32)) (fun _ => (0 : Int32)) (fun _ => (0 : Int32)) (0 : Int32) (0 : Int32))) H := hP
  have hD : va_D A (cD cy a (mkD (w 0) (fun _ => (mid - (1 : Int32))) (fun _ => (-99999 : Int32)) (fun _ => (0 : Int32)) (fun _ => (0 : Int32)) (fun _ => (0 : Int32)) (0 : Int32) (0 : Int32))) := hD
  have hw9 : (w_X0_beginAnew w mid) = (mkD (w 0) (fun _ => (mid - (1 : Int32))) (fun _ => (-99999 : Int32)) (fun _ => (0 : Int32)) (fun _ => (0 : Int32)) (fun _ => (0 : Int32)) (0 : Int32) (0 : Int32)) := by rfl
  exact hret H locs _ ls (by rw [hw9]; exact hP) (by rw [hw9]; exact hD) hS dX0_beginAnew_53

/-- how many of the first n are above 0 -/
def cuf (f : Nat → Int32) : Nat → Int32
  | 0 => 0
  | n + 1 => if f n ≤ 0 then cuf f n else cuf f n + 1
def r_X0_countUsed (w : RV) : Int32 := cuf (w 3) 64

abbrev rX0_countUsed : Room := { frames := 0, cells := 0, slots := 0, locals := 0 }
theorem inX0_countUsed_X0 : ∀ w ∈ u_ws RX0 TX0 8, w ∈ wsX0_countUsed := by decide +kernel
set_option maxHeartbeats 4000000 in
set_option maxRecDepth 100000 in
theorem c_X0_countUsed (l : Launch) (D : va_G) (cy : Nat → ClassId) (a : Nat → Nat) (w : RV)  (sz : Nat)  : CI l yX0_countUsed wsX0_countUsed rX0_countUsed D cy [.ref (a 0)] (cD cy a w) sz (r_X0_countUsed w) (cD cy a w) 0 0 := by
  refine st_i (ty := .int) (cc := cX0_countUsed) (maxL := 3) (by decide) rfl rfl (Nat.le_of_ble_eq_true rfl) ?_
  intro pp e s m below meth c A Q ls hx hb hts hown hml hlocks hsz hP hK hD hE hA hl hret
  subst hsz
  have hown : s.vm.findClass RX0 = some m.cls := hown
  have hl : lv_has ls 3 [(0, .ref (a 0))] := hl
  obtain ⟨H, hH⟩ : ∃ H, H = s.heap := ⟨_, rfl⟩
  rw [← hH] at hP ⊢
  have hS : va_S A s.heap H [] := by rw [hH]; exact va_S.rf
  obtain ⟨locs, hlo⟩ : ∃ locs : List Loc, locs = [] := ⟨_, rfl⟩
  rw [← hlo] at hS ⊢
  have hloop : ∀ (k i : Nat) (x : Int32), i + k = 64 → x = cuf (w 3) i → ∀ (locs : List Loc), va_S A s.heap H locs → ∀ ls : Array Slot, lv_has ls 3 [(0, .ref (a 0)), (1, .int x), (2, .int (nI i))] → W pp l e rX0_countUsed s m ([.ref (a 0)] : List Value).toArray below meth c H locs 0 0 Q (F0 m 4 ls []) := by
    intro k
    induction k with
    | zero =>
      intro i x hi hxx locs hS ls hl
      have hi : i = 64 := by omega
      subst hi
      refine lv_iload_n hx hb dX0_countUsed_4 rfl (lv_at hl 2 rfl) ?_
      refine lv_bipush (v := 64) hx hb dX0_countUsed_5 (by decide) ?_
      refine lv_icmp_ge (tgt := 28) hx hb dX0_countUsed_7 (by decide) (fun c_1 => ?_) (fun c_1 => absurd (Int32.le_refl _) c_1)
      refine lv_iload_n hx hb dX0_countUsed_28 rfl (lv_at hl 1 rfl) ?_
      exact hret _ H locs _ ls hxx hP hD hS dX0_countUsed_29
    | succ k ih =>
      intro i x hi hxx locs hS ls hl
      refine lv_iload_n hx hb dX0_countUsed_4 rfl (lv_at hl 2 rfl) ?_
      refine lv_bipush (v := 64) hx hb dX0_countUsed_5 (by decide) ?_
      refine lv_icmp_ge (tgt := 28) hx hb dX0_countUsed_7 (by decide) (fun c_2 => absurd c_2 (nI_ge (a := i) (b := 64) (by omega) (by decide))) (fun c_2 => ?_)
      refine lv_aload_n hx hb dX0_countUsed_10 rfl (lv_at hl 0 rfl) ?_
      refine va_get (D := D) (ci := 0) (v := .ref (a 4)) (C := RX0) (T := TX0) (N := 8) hx hb hts inX0_countUsed_X0 hown hK hP 0 rfl rfl 3 (by decide) (hts _ (List.mem_of_getElem? (i := 1) rfl)) (fun _ h9 => h9) rfl dX0_countUsed_11 ?_
      refine lv_iload_n hx hb dX0_countUsed_14 rfl (lv_at hl 2 rfl) ?_
      refine x_iald (f := (w 3)) (j := i) hx hb hK hP 4 0 rfl rfl (nI_clamp (by omega)) (vp_in_nI (by omega) (by decide)) dX0_countUsed_15 ?_
      refine lv_if_le (tgt := 22) hx hb dX0_countUsed_16 (by decide) (fun c_3 => ?_) (fun c_3 => ?_)
      · refine lv_iinc (v := (nI (i + 1))) (lv' := [(2, .int (nI (i + 1))), (0, .ref (a 0)), (1, .int x)]) hx hb dX0_countUsed_22 hl (k := 2) rfl (nI_1 i) (by decide) rfl (fun ls hl => ?_)
        refine lv_goto (tgt := 4) hx hb dX0_countUsed_25 (by decide) ?_
        exact ih (i + 1) _ (by omega) (by show _ = (if (w 3) i ≤ 0 then cuf (w 3) i else cuf (w 3) i + 1); rw [if_pos c_3, hxx]) locs hS ls (lv_sub hl [1, 2, 0] rfl)
      · refine lv_iinc (v := (x + (1 : Int32))) (lv' := [(1, .int (x + (1 : Int32))), (0, .ref (a 0)), (2, .int (nI i))]) hx hb dX0_countUsed_19 hl (k := 1) rfl rfl (by decide) rfl (fun ls hl => ?_)
        refine lv_iinc (v := (nI (i + 1))) (lv' := [(2, .int (nI (i + 1))), (1, .int (x + (1 : Int32))), (0, .ref (a 0))]) hx hb dX0_countUsed_22 hl (k := 2) rfl (nI_1 i) (by decide) rfl (fun ls hl => ?_)
        refine lv_goto (tgt := 4) hx hb dX0_countUsed_25 (by decide) ?_
        exact ih (i + 1) _ (by omega) (by show _ = (if (w 3) i ≤ 0 then cuf (w 3) i else cuf (w 3) i + 1); rw [if_neg c_3, hxx]) locs hS ls (lv_sub hl [2, 1, 0] rfl)
  refine lv_iconst (v := 0) hx hb dX0_countUsed_0 (by decide) ?_
  refine lv_istore_n (lv' := [(1, .int (0 : Int32)), (0, .ref (a 0))]) hx hb dX0_countUsed_1 rfl hl (by decide) rfl (fun ls hl => ?_)
  refine lv_iconst (v := 0) hx hb dX0_countUsed_2 (by decide) ?_
  refine lv_istore_n (lv' := [(2, .int (0 : Int32)), (1, .int (0 : Int32)), (0, .ref (a 0))]) hx hb dX0_countUsed_3 rfl hl (by decide) rfl (fun ls hl => ?_)
  exact hloop 64 0 0 rfl rfl locs hS ls (lv_sub hl [2, 1, 0] rfl)

abbrev rX0_copyFrom : Room := { frames := 1, cells := 0, slots := 0, locals := 60 }
theorem inX0_copyFrom_X0 : ∀ w ∈ u_ws RX0 TX0 8, w ∈ wsX0_copyFrom := by decide +kernel
set_option maxHeartbeats 4000000 in
set_option maxRecDepth 100000 in
theorem c_X0_copyFrom (l : Launch) (D : va_G) (cy : Nat → ClassId) (a : Nat → Nat) (b : Nat → Nat) (w : RV) (u : RV)  (sz : Nat)  : CN l yX0_copyFrom wsX0_copyFrom rX0_copyFrom D cy [.ref (a 0), .ref (b 0)] (cD cy a w ++ cD cy b u) sz (cD cy a u ++ cD cy b u) 0 0 := by
  refine st_n (cc := cX0_copyFrom) (maxL := 2) (by decide) rfl (Nat.le_of_ble_eq_true rfl) ?_
  intro pp e s m below meth c A Q ls hx hb hts hown hml hlocks hsz hP hK hD hE hA hl hret
  subst hsz
  have hown : s.vm.findClass RX0 = some m.cls := hown
  have hl : lv_has ls 2 [(0, .ref (a 0)), (1, .ref (b 0))] := hl
  obtain ⟨H, hH⟩ : ∃ H, H = s.heap := ⟨_, rfl⟩
  rw [← hH] at hP ⊢
  have hS : va_S A s.heap H [] := by rw [hH]; exact va_S.rf
  obtain ⟨locs, hlo⟩ : ∃ locs : List Loc, locs = [] := ⟨_, rfl⟩
  rw [← hlo] at hS ⊢
  refine lv_aload_n hx hb dX0_copyFrom_0 rfl (lv_at hl 1 rfl) ?_
  refine va_get (D := D) (ci := 0) (v := .ref (b 1)) (C := RX0) (T := TX0) (N := 8) hx hb hts inX0_copyFrom_X0 hown hK hP 7 rfl rfl 0 (by decide) (hts _ (List.mem_of_getElem? (i := 1) rfl)) (fun _ h9 => h9) rfl dX0_copyFrom_1 ?_
  refine lv_iconst (v := 0) hx hb dX0_copyFrom_4 (by decide) ?_
  refine lv_aload_n hx hb dX0_copyFrom_5 rfl (lv_at hl 0 rfl) ?_
  refine va_get (D := D) (ci := 0) (v := .ref (a 1)) (C := RX0) (T := TX0) (N := 8) hx hb hts inX0_copyFrom_X0 hown hK hP 0 rfl rfl 0 (by decide) (hts _ (List.mem_of_getElem? (i := 1) rfl)) (fun _ h9 => h9) rfl dX0_copyFrom_6 ?_
  refine lv_iconst (v := 0) hx hb dX0_copyFrom_9 (by decide) ?_
  refine lv_iconst (v := 3) hx hb dX0_copyFrom_10 (by decide) ?_
  refine x_cpy (N := 3) hx hb (hml.trans hl.1.symm) hown (hts _ (List.mem_of_getElem? (i := 2) rfl)) (hts _ (List.mem_of_getElem? (i := 3) rfl)) (hts _ (List.mem_of_getElem? (i := 4) rfl)) (hts _ (List.mem_of_getElem? (i := 5) rfl)) hK hP hD hS 8 1 0 rfl rfl rfl (by decide) (by decide) (Nat.le_of_ble_eq_true rfl) (Nat.le_of_ble_eq_true rfl) dX0_copyFrom_11 (fun H locs hP hD hS => ?_)
  have hP : va_P D vwCl (cD cy a (mkD (u 0) (w 1) (w 2) (w 3) (w 4) (w 5) (w 6 0) (w 7 0)) ++ cD cy b u) H := hP
  have hD : va_D A (cD cy a (mkD (u 0) (w 1) (w 2) (w 3) (w 4) (w 5) (w 6 0) (w 7 0)) ++ cD cy b u) := hD
  refine lv_aload_n hx hb dX0_copyFrom_14 rfl (lv_at hl 1 rfl) ?_
  refine va_get (D := D) (ci := 0) (v := .ref (b 2)) (C := RX0) (T := TX0) (N := 8) hx hb hts inX0_copyFrom_X0 hown hK hP 7 rfl rfl 1 (by decide) (hts _ (List.mem_of_getElem? (i := 6) rfl)) (fun _ h9 => h9) rfl dX0_copyFrom_15 ?_
  refine lv_iconst (v := 0) hx hb dX0_copyFrom_18 (by decide) ?_
  refine lv_aload_n hx hb dX0_copyFrom_19 rfl (lv_at hl 0 rfl) ?_
  refine va_get (D := D) (ci := 0) (v := .ref (a 2)) (C := RX0) (T := TX0) (N := 8) hx hb hts inX0_copyFrom_X0 hown hK hP 0 rfl rfl 1 (by decide) (hts _ (List.mem_of_getElem? (i := 6) rfl)) (fun _ h9 => h9) rfl dX0_copyFrom_20 ?_
  refine lv_iconst (v := 0) hx hb dX0_copyFrom_23 (by decide) ?_
  refine lv_bipush (v := 64) hx hb dX0_copyFrom_24 (by decide) ?_
  refine x_cpy (N := 64) hx hb (hml.trans hl.1.symm) hown (hts _ (List.mem_of_getElem? (i := 2) rfl)) (hts _ (List.mem_of_getElem? (i := 3) rfl)) (hts _ (List.mem_of_getElem? (i := 4) rfl)) (hts _ (List.mem_of_getElem? (i := 5) rfl)) hK hP hD hS 9 2 0 rfl rfl rfl (by decide) (by decide) (Nat.le_of_ble_eq_true rfl) (Nat.le_of_ble_eq_true rfl) dX0_copyFrom_26 (fun H locs hP hD hS => ?_)
  have hP : va_P D vwCl (cD cy a (mkD (u 0) (u 1) (w 2) (w 3) (w 4) (w 5) (w 6 0) (w 7 0)) ++ cD cy b u) H := hP
  have hD : va_D A (cD cy a (mkD (u 0) (u 1) (w 2) (w 3) (w 4) (w 5) (w 6 0) (w 7 0)) ++ cD cy b u) := hD
  refine lv_aload_n hx hb dX0_copyFrom_29 rfl (lv_at hl 1 rfl) ?_
  refine va_get (D := D) (ci := 0) (v := .ref (b 3)) (C := RX0) (T := TX0) (N := 8) hx hb hts inX0_copyFrom_X0 hown hK hP 7 rfl rfl 2 (by decide) (hts _ (List.mem_of_getElem? (i := 7) rfl)) (fun _ h9 => h9) rfl dX0_copyFrom_30 ?_
  refine lv_iconst (v := 0) hx hb dX0_copyFrom_33 (by decide) ?_
  refine lv_aload_n hx hb dX0_copyFrom_34 rfl (lv_at hl 0 rfl) ?_
  refine va_get (D := D) (ci := 0) (v := .ref (a 3)) (C := RX0) (T := TX0) (N := 8) hx hb hts inX0_copyFrom_X0 hown hK hP 0 rfl rfl 2 (by decide) (hts _ (List.mem_of_getElem? (i := 7) rfl)) (fun _ h9 => h9) rfl dX0_copyFrom_35 ?_
  refine lv_iconst (v := 0) hx hb dX0_copyFrom_38 (by decide) ?_
  refine lv_bipush (v := 64) hx hb dX0_copyFrom_39 (by decide) ?_
  refine x_cpy (N := 64) hx hb (hml.trans hl.1.symm) hown (hts _ (List.mem_of_getElem? (i := 2) rfl)) (hts _ (List.mem_of_getElem? (i := 3) rfl)) (hts _ (List.mem_of_getElem? (i := 4) rfl)) (hts _ (List.mem_of_getElem? (i := 5) rfl)) hK hP hD hS 10 3 0 rfl rfl rfl (by decide) (by decide) (Nat.le_of_ble_eq_true rfl) (Nat.le_of_ble_eq_true rfl) dX0_copyFrom_41 (fun H locs hP hD hS => ?_)
  have hP : va_P D vwCl (cD cy a (mkD (u 0) (u 1) (u 2) (w 3) (w 4) (w 5) (w 6 0) (w 7 0)) ++ cD cy b u) H := hP
  have hD : va_D A (cD cy a (mkD (u 0) (u 1) (u 2) (w 3) (w 4) (w 5) (w 6 0) (w 7 0)) ++ cD cy b u) := hD
  refine lv_aload_n hx hb dX0_copyFrom_44 rfl (lv_at hl 1 rfl) ?_
  refine va_get (D := D) (ci := 0) (v := .ref (b 4)) (C := RX0) (T := TX0) (N := 8) hx hb hts inX0_copyFrom_X0 hown hK hP 7 rfl rfl 3 (by decide) (hts _ (List.mem_of_getElem? (i := 8) rfl)) (fun _ h9 => h9) rfl dX0_copyFrom_45 ?_
  refine lv_iconst (v := 0) hx hb dX0_copyFrom_48 (by decide) ?_
  refine lv_aload_n hx hb dX0_copyFrom_49 rfl (lv_at hl 0 rfl) ?_
  refine va_get (D := D) (ci := 0) (v := .ref (a 4)) (C := RX0) (T := TX0) (N := 8) hx hb hts inX0_copyFrom_X0 hown hK hP 0 rfl rfl 3 (by decide) (hts _ (List.mem_of_getElem? (i := 8) rfl)) (fun _ h9 => h9) rfl dX0_copyFrom_50 ?_
  refine lv_iconst (v := 0) hx hb dX0_copyFrom_53 (by decide) ?_
  refine lv_bipush (v := 64) hx hb dX0_copyFrom_54 (by decide) ?_
  refine x_cpy (N := 64) hx hb (hml.trans hl.1.symm) hown (hts _ (List.mem_of_getElem? (i := 2) rfl)) (hts _ (List.mem_of_getElem? (i := 3) rfl)) (hts _ (List.mem_of_getElem? (i := 4) rfl)) (hts _ (List.mem_of_getElem? (i := 5) rfl)) hK hP hD hS 11 4 0 rfl rfl rfl (by decide) (by decide) (Nat.le_of_ble_eq_true rfl) (Nat.le_of_ble_eq_true rfl) dX0_copyFrom_56 (fun H locs hP hD hS => ?_)
  have hP : va_P D vwCl (cD cy a (mkD (u 0) (u 1) (u 2) (u 3) (w 4) (w 5) (w 6 0) (w 7 0)) ++ cD cy b u) H := hP
  have hD : va_D A (cD cy a (mkD (u 0) (u 1) (u 2) (u 3) (w 4) (w 5) (w 6 0) (w 7 0)) ++ cD cy b u) := hD
  refine lv_aload_n hx hb dX0_copyFrom_59 rfl (lv_at hl 1 rfl) ?_
  refine va_get (D := D) (ci := 0) (v := .ref (b 5)) (C := RX0) (T := TX0) (N := 8) hx hb hts inX0_copyFrom_X0 hown hK hP 7 rfl rfl 4 (by decide) (hts _ (List.mem_of_getElem? (i := 9) rfl)) (fun _ h9 => h9) rfl dX0_copyFrom_60 ?_
  refine lv_iconst (v := 0) hx hb dX0_copyFrom_63 (by decide) ?_
  refine lv_aload_n hx hb dX0_copyFrom_64 rfl (lv_at hl 0 rfl) ?_
  refine va_get (D := D) (ci := 0) (v := .ref (a 5)) (C := RX0) (T := TX0) (N := 8) hx hb hts inX0_copyFrom_X0 hown hK hP 0 rfl rfl 4 (by decide) (hts _ (List.mem_of_getElem? (i := 9) rfl)) (fun _ h9 => h9) rfl dX0_copyFrom_65 ?_
  refine lv_iconst (v := 0) hx hb dX0_copyFrom_68 (by decide) ?_
  refine lv_bipush (v := 64) hx hb dX0_copyFrom_69 (by decide) ?_
  refine x_cpy (N := 64) hx hb (hml.trans hl.1.symm) hown (hts _ (List.mem_of_getElem? (i := 2) rfl)) (hts _ (List.mem_of_getElem? (i := 3) rfl)) (hts _ (List.mem_of_getElem? (i := 4) rfl)) (hts _ (List.mem_of_getElem? (i := 5) rfl)) hK hP hD hS 12 5 0 rfl rfl rfl (by decide) (by decide) (Nat.le_of_ble_eq_true rfl) (Nat.le_of_ble_eq_true rfl) dX0_copyFrom_71 (fun H locs hP hD hS => ?_)
  have hP : va_P D vwCl (cD cy a (mkD (u 0) (u 1) (u 2) (u 3) (u 4) (w 5) (w 6 0) (w 7 0)) ++ cD cy b u) H := hP
  have hD : va_D A (cD cy a (mkD (u 0) (u 1) (u 2) (u 3) (u 4) (w 5) (w 6 0) (w 7 0)) ++ cD cy b u) := hD
  refine lv_aload_n hx hb dX0_copyFrom_74 rfl (lv_at hl 1 rfl) ?_
  refine va_get (D := D) (ci := 0) (v := .ref (b 6)) (C := RX0) (T := TX0) (N := 8) hx hb hts inX0_copyFrom_X0 hown hK hP 7 rfl rfl 5 (by decide) (hts _ (List.mem_of_getElem? (i := 10) rfl)) (fun _ h9 => h9) rfl dX0_copyFrom_75 ?_
  refine lv_iconst (v := 0) hx hb dX0_copyFrom_78 (by decide) ?_
  refine lv_aload_n hx hb dX0_copyFrom_79 rfl (lv_at hl 0 rfl) ?_
  refine va_get (D := D) (ci := 0) (v := .ref (a 6)) (C := RX0) (T := TX0) (N := 8) hx hb hts inX0_copyFrom_X0 hown hK hP 0 rfl rfl 5 (by decide) (hts _ (List.mem_of_getElem? (i := 10) rfl)) (fun _ h9 => h9) rfl dX0_copyFrom_80 ?_
  refine lv_iconst (v := 0) hx hb dX0_copyFrom_83 (by decide) ?_
  refine lv_bipush (v := 26) hx hb dX0_copyFrom_84 (by decide) ?_
  refine x_cpy (N := 26) hx hb (hml.trans hl.1.symm) hown (hts _ (List.mem_of_getElem? (i := 2) rfl)) (hts _ (List.mem_of_getElem? (i := 3) rfl)) (hts _ (List.mem_of_getElem? (i := 4) rfl)) (hts _ (List.mem_of_getElem? (i := 5) rfl)) hK hP hD hS 13 6 0 rfl rfl rfl (by decide) (by decide) (Nat.le_of_ble_eq_true rfl) (Nat.le_of_ble_eq_true rfl) dX0_copyFrom_86 (fun H locs hP hD hS => ?_)
  have hP : va_P D vwCl (cD cy a (mkD (u 0) (u 1) (u 2) (u 3) (u 4) (u 5) (w 6 0) (w 7 0)) ++ cD cy b u) H := hP
  have hD : va_D A (cD cy a (mkD (u 0) (u 1) (u 2) (u 3) (u 4) (u 5) (w 6 0) (w 7 0)) ++ cD cy b u) := hD
  refine lv_aload_n hx hb dX0_copyFrom_89 rfl (lv_at hl 0 rfl) ?_
  refine lv_aload_n hx hb dX0_copyFrom_90 rfl (lv_at hl 1 rfl) ?_
  refine va_get (D := D) (ci := 0) (v := .int (u 6 0)) (C := RX0) (T := TX0) (N := 8) hx hb hts inX0_copyFrom_X0 hown hK hP 7 rfl rfl 6 (by decide) (hts _ (List.mem_of_getElem? (i := 11) rfl)) (fun _ h9 => h9) rfl dX0_copyFrom_91 ?_
  refine va_put (D := D) (ci := 0) (v := .int (u 6 0)) (ty := .int) (C := RX0) (T := TX0) (N := 8) hx hb hts inX0_copyFrom_X0 tyX0 tyX0_ok nmX0 hown hK hP hD hS 0 rfl rfl 6 (by decide) (hts _ (List.mem_of_getElem? (i := 11) rfl)) (fun _ h9 => h9) rfl (by decide +kernel) rfl rfl (Nat.le_of_ble_eq_true rfl) dX0_copyFrom_94 (fun H locs hP hD hS => ?_)
  have hP : va_P D vwCl (cD cy a (mkD (u 0) (u 1) (u 2) (u 3) (u 4) (u 5) (u 6 0) (w 7 0)) ++ cD cy b u) H := hP
  have hD : va_D A (cD cy a (mkD (u 0) (u 1) (u 2) (u 3) (u 4) (u 5) (u 6 0) (w 7 0)) ++ cD cy b u) := hD
  refine lv_aload_n hx hb dX0_copyFrom_97 rfl (lv_at hl 0 rfl) ?_
  refine lv_aload_n hx hb dX0_copyFrom_98 rfl (lv_at hl 1 rfl) ?_
  refine va_get (D := D) (ci := 0) (v := .int (u 7 0)) (C := RX0) (T := TX0) (N := 8) hx hb hts inX0_copyFrom_X0 hown hK hP 7 rfl rfl 7 (by decide) (hts _ (List.mem_of_getElem? (i := 12) rfl)) (fun _ h9 => h9) rfl dX0_copyFrom_99 ?_
  refine va_put (D := D) (ci := 0) (v := .int (u 7 0)) (ty := .int) (C := RX0) (T := TX0) (N := 8) hx hb hts inX0_copyFrom_X0 tyX0 tyX0_ok nmX0 hown hK hP hD hS 0 rfl rfl 7 (by decide) (hts _ (List.mem_of_getElem? (i := 12) rfl)) (fun _ h9 => h9) rfl (by decide +kernel) rfl rfl (Nat.le_of_ble_eq_true rfl) dX0_copyFrom_102 (fun H locs hP hD hS => ?_)
  have hP : va_P D vwCl (cD cy a (mkD (u 0) (u 1) (u 2) (u 3) (u 4) (u 5) (u 6 0) (u 7 0)) ++ cD cy b u) H := hP
  have hD : va_D A (cD cy a (mkD (u 0) (u 1) (u 2) (u 3) (u 4) (u 5) (u 6 0) (u 7 0)) ++ cD cy b u) := hD
  exact hret H locs _ ls hP hD hS dX0_copyFrom_105

