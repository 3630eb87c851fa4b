/-! ===== State.go, goAll ===== -/
theorem note_inS (v : SV) (d pl : Int32) (h : szok (v.1 0 0)) : vp_in (r_X3_noteFor v d pl) 64 := by
  unfold r_X3_noteFor
  split
  · exact note_in _ _ _ h
  · exact note_in _ _ _ h
theorem cg_set (v : SV) (pl tk gs : Int32) : (w_X3_countGuess v pl tk gs).1 0 = v.1 0 := rfl
theorem mc_set (v : SV) (pl tl : Int32) : (w_X3_moveChooser v pl tl).1 0 = v.1 0 := rfl

def w_go1 (v : SV) (pl : Int32) (tk : Int32) : SV := (if (r_X3_deskSays v (0 : Int32) pl) = (r_X3_deskSays v (1 : Int32) pl) then (w_X3_countGuess v pl tk (if (if (2 : Int32) ≤ ((v.1 1) pl.toNatClampNeg) then (r_X3_deskSays v (1 : Int32) pl) else (r_X3_deskSays v (0 : Int32) pl)) = tk then (1 : Int32) else (0 : Int32))) else (w_X3_moveChooser (w_X3_countGuess v pl tk (if (if (2 : Int32) ≤ ((v.1 1) pl.toNatClampNeg) then (r_X3_deskSays v (1 : Int32) pl) else (r_X3_deskSays v (0 : Int32) pl)) = tk then (1 : Int32) else (0 : Int32))) pl (if (r_X3_deskSays v (1 : Int32) pl) = tk then (1 : Int32) else (0 : Int32))))
theorem go1_set (v : SV) (pl tk : Int32) : (w_go1 v pl tk).1 0 = v.1 0 := by
  unfold w_go1
  split <;> rfl
def r_X3_go (v : SV) (pl : Int32) (tk : Int32) : Int32 := (if (if (2 : Int32) ≤ ((v.1 1) pl.toNatClampNeg) then (r_X3_deskSays v (1 : Int32) pl) else (r_X3_deskSays v (0 : Int32) pl)) = tk then (1 : Int32) else (0 : Int32))
def w_X3_go (v : SV) (pl : Int32) (tk : Int32) : SV := ((w_go1 v pl tk).1, (w_X0_changePath (w_X0_use ((w_go1 v pl tk).2.1) (r_X3_noteFor (w_go1 v pl tk) (0 : Int32) pl) pl tk (((w_go1 v pl tk).1 0) 1)) pl tk), (w_X0_changePath (w_X0_use ((w_go1 v pl tk).2.2) (r_X3_noteFor ((w_go1 v pl tk).1, (w_X0_changePath (w_X0_use ((w_go1 v pl tk).2.1) (r_X3_noteFor (w_go1 v pl tk) (0 : Int32) pl) pl tk (((w_go1 v pl tk).1 0) 1)) pl tk), (w_go1 v pl tk).2.2) (1 : Int32) pl) pl tk (((w_go1 v pl tk).1 0) 1)) pl tk))
abbrev rX3_go : Room := { frames := 3, cells := 0, slots := 0, locals := 68 }
theorem inX3_go_X3 : ∀ w ∈ u_ws RX3 TX3 11, w ∈ wsX3_go := by decide +kernel
theorem zn_X3_go (v : SV) (pl : Int32) (tk : Int32) : narrow .boolean (.int (r_X3_go v pl tk)) = .int (r_X3_go v pl tk) := by
  unfold r_X3_go
  repeat' split
  all_goals rfl
set_option maxHeartbeats 4000000 in
set_option maxRecDepth 100000 in
theorem c_X3_go (l : Launch) (D : va_G) (cy : Nat → ClassId) (a : Nat → Nat → Nat) (v : SV) (pl : Int32) (tk : Int32) (sz : Nat) (hpl : vp_in pl 26) (hsz2 : szok (v.1 0 0)) : CI l yX3_go wsX3_go rX3_go D cy [.ref (a 0 0), .int pl, .int tk] (cS cy a v) sz (r_X3_go v pl tk) (cS cy a (w_X3_go v pl tk)) 0 0 := by
  refine st_i (ty := .boolean) (cc := cX3_go) (maxL := 7) (by decide) rfl (zn_X3_go v pl tk) (Nat.le_of_ble_eq_true rfl) ?_
  intro pp e s m below meth c A Q ls hx hb hts hown hml hlocks hsz hP hK hD hE hA hl hret
  subst hsz
  have hown : s.vm.findClass RX3 = some m.cls := hown
  have hl : lv_has ls 7 [(0, .ref (a 0 0)), (1, .int pl), (2, .int tk)] := hl
  obtain ⟨H, hH⟩ : ∃ H, H = s.heap := ⟨_, rfl⟩
  rw [← hH] at hP ⊢
  have hS : va_S A s.heap H [] := by rw [hH]; exact va_S.rf
  obtain ⟨locs, hlo⟩ : ∃ locs : List Loc, locs = [] := ⟨_, rfl⟩
  rw [← hlo] at hS ⊢
  refine lv_aload_n hx hb dX3_go_0 rfl (lv_at hl 0 rfl) ?_
  refine lv_iconst (v := 0) hx hb dX3_go_1 (by decide) ?_
  refine lv_iload_n hx hb dX3_go_2 rfl (lv_at hl 1 rfl) ?_
  refine cl_i (va_runV (As := [.int (0 : Int32), .int pl]) (rest := []) ⟨hx, hb, hml, hown, hts⟩ (c_X3_deskSays l D cy a v (0 : Int32) pl H.size (by first | exact Or.inl rfl | exact Or.inr rfl) hpl hsz2) (cwV 2 hts gX3_go_X3_deskSays rfl rfl rfl (by decide +kernel) ⟨Nat.le_of_ble_eq_true rfl, Nat.le_of_ble_eq_true rfl⟩) ⟨blU, va_recv hK hP (ci := 2) (q0 := 0) rfl rfl, preU hP hD (pmI _) hK hE hS hA⟩ rfl rfl hl.1 rfl (lv_room (Nat.le_of_ble_eq_true rfl)) dX3_go_3 ⟨Nat.le_of_ble_eq_true rfl, Nat.le_of_ble_eq_true rfl⟩) hP hD (pmI _) hS hA (fun H locs hP hD hS => ?_)
  have hP : va_P D vwCl (cS cy a v) H := vP_perm hP (pmI _).symm
  have hD : va_D A (cS cy a v) := vD_perm hD (pmI _).symm
  refine lv_istore_n (lv' := [(3, .int (r_X3_deskSays v (0 : Int32) pl)), (0, .ref (a 0 0)), (1, .int pl), (2, .int tk)]) hx hb dX3_go_6 rfl hl (by decide) rfl (fun ls hl => ?_)
  refine lv_aload_n hx hb dX3_go_7 rfl (lv_at hl 1 rfl) ?_
  refine lv_iconst (v := 1) hx hb dX3_go_8 (by decide) ?_
  refine lv_iload_n hx hb dX3_go_9 rfl (lv_at hl 2 rfl) ?_
  refine cl_i (va_runV (As := [.int (1 : Int32), .int pl]) (rest := []) ⟨hx, hb, hml, hown, hts⟩ (c_X3_deskSays l D cy a v (1 : Int32) pl H.size (by first | exact Or.inl rfl | exact Or.inr rfl) hpl hsz2) (cwV 2 hts gX3_go_X3_deskSays rfl rfl rfl (by decide +kernel) ⟨Nat.le_of_ble_eq_true rfl, Nat.le_of_ble_eq_true rfl⟩) ⟨blU, va_recv hK hP (ci := 2) (q0 := 0) rfl rfl, preU hP hD (pmI _) hK hE hS hA⟩ rfl rfl hl.1 rfl (lv_room (Nat.le_of_ble_eq_true rfl)) dX3_go_10 ⟨Nat.le_of_ble_eq_true rfl, Nat.le_of_ble_eq_true rfl⟩) hP hD (pmI _) hS hA (fun H locs hP hD hS => ?_)
  have hP : va_P D vwCl (cS cy a v) H := vP_perm hP (pmI _).symm
  have hD : va_D A (cS cy a v) := vD_perm hD (pmI _).symm
  refine lv_istore (lv' := [(4, .int (r_X3_deskSays v (1 : Int32) pl)), (3, .int (r_X3_deskSays v (0 : Int32) pl)), (0, .ref (a 0 0)), (1, .int pl), (2, .int tk)]) hx hb dX3_go_13 hl (by decide) rfl (fun ls hl => ?_)
  refine lv_aload_n hx hb dX3_go_15 rfl (lv_at hl 2 rfl) ?_
  refine va_get (D := D) (ci := 2) (v := .ref ((a 0) 3)) (C := RX3) (T := TX3) (N := 11) hx hb hts inX3_go_X3 hown hK hP 0 rfl rfl 2 (by decide) (hts _ (List.mem_of_getElem? (i := 1) rfl)) (fun _ h9 => h9) rfl dX3_go_16 ?_
  refine lv_iload_n hx hb dX3_go_19 rfl (lv_at hl 3 rfl) ?_
  refine x_iald (f := (v.1 1)) (j := pl.toNatClampNeg) hx hb hK hP 3 0 rfl rfl rfl hpl dX3_go_20 ?_
  refine lv_iconst (v := 2) hx hb dX3_go_21 (by decide) ?_
  have J31_2 : ∀ (z_2 : Int32) (hz_2 : z_2 = (if (2 : Int32) ≤ ((v.1 1) pl.toNatClampNeg) then (r_X3_deskSays v (1 : Int32) pl) else (r_X3_deskSays v (0 : Int32) pl))) (H : Heap) (locs : List Loc), va_P D vwCl (cS cy a v) H → va_D A (cS cy a v) → va_S A s.heap H locs → ∀ ls : Array Slot, lv_has ls 7 [(0, .ref (a 0 0)), (1, .int pl), (2, .int tk), (3, .int (r_X3_deskSays v (0 : Int32) pl)), (4, .int (r_X3_deskSays v (1 : Int32) pl))] → W pp l e rX3_go s m ([.ref (a 0 0), .int pl, .int tk] : List Value).toArray below meth c H locs 0 0 Q (F0 m 31 ls [.int z_2]) := by
    intro z_2 hz_2 H locs hP hD hS ls hl
    subst hz_2
    refine lv_iload_n hx hb dX3_go_31 rfl (lv_at hl 2 rfl) ?_
    have J40_5 : ∀ (z_5 : Int32) (hz_5 : z_5 = (if (if (2 : Int32) ≤ ((v.1 1) pl.toNatClampNeg) then (r_X3_deskSays v (1 : Int32) pl) else (r_X3_deskSays v (0 : Int32) pl)) = tk then (1 : Int32) else (0 : Int32))) (H : Heap) (locs : List Loc), va_P D vwCl (cS cy a v) H → va_D A (cS cy a v) → va_S A s.heap H locs → ∀ ls : Array Slot, lv_has ls 7 [(0, .ref (a 0 0)), (1, .int pl), (2, .int tk), (3, .int (r_X3_deskSays v (0 : Int32) pl)), (4, .int (r_X3_deskSays v (1 : Int32) pl))] → W pp l e rX3_go s m ([.ref (a 0 0), .int pl, .int tk] : List Value).toArray below meth c H locs 0 0 Q (F0 m 40 ls [.int z_5]) := by
      intro z_5 hz_5 H locs hP hD hS ls hl
      subst hz_5
      refine lv_istore (lv' := [(5, .int (if (if (2 : Int32) ≤ ((v.1 1) pl.toNatClampNeg) then (r_X3_deskSays v (1 : Int32) pl) else (r_X3_deskSays v (0 : Int32) pl)) = tk then (1 : Int32) else (0 : Int32))), (0, .ref (a 0 0)), (1, .int pl), (2, .int tk), (3, .int (r_X3_deskSays v (0 : Int32) pl)), (4, .int (r_X3_deskSays v (1 : Int32) pl))]) hx hb dX3_go_40 hl (by decide) rfl (fun ls hl => ?_)
      refine lv_aload_n hx hb dX3_go_42 rfl (lv_at hl 1 rfl) ?_
      refine lv_iload_n hx hb dX3_go_43 rfl (lv_at hl 2 rfl) ?_
      refine lv_iload_n hx hb dX3_go_44 rfl (lv_at hl 3 rfl) ?_
      refine lv_iload hx hb dX3_go_45 (lv_at hl 0 rfl) ?_
      refine cl_n (va_runV (As := [.int pl, .int tk, .int (if (if (2 : Int32) ≤ ((v.1 1) pl.toNatClampNeg) then (r_X3_deskSays v (1 : Int32) pl) else (r_X3_deskSays v (0 : Int32) pl)) = tk then (1 : Int32) else (0 : Int32))]) (rest := []) ⟨hx, hb, hml, hown, hts⟩ (c_X3_countGuess l D cy a v pl tk (if (if (2 : Int32) ≤ ((v.1 1) pl.toNatClampNeg) then (r_X3_deskSays v (1 : Int32) pl) else (r_X3_deskSays v (0 : Int32) pl)) = tk then (1 : Int32) else (0 : Int32)) H.size hpl) (cwV 3 hts gX3_go_X3_countGuess rfl rfl rfl (by decide +kernel) ⟨Nat.le_of_ble_eq_true rfl, Nat.le_of_ble_eq_true rfl⟩) ⟨blU, va_recv hK hP (ci := 2) (q0 := 0) rfl rfl, preU hP hD (pmI _) hK hE hS hA⟩ rfl rfl hl.1 rfl (lv_room (Nat.le_of_ble_eq_true rfl)) dX3_go_47 ⟨Nat.le_of_ble_eq_true rfl, Nat.le_of_ble_eq_true rfl⟩) hP hD (pmI _) hS hA (fun H locs hP hD hS => ?_)
      have hP : va_P D vwCl (cS cy a (w_X3_countGuess v pl tk (if (if (2 : Int32) ≤ ((v.1 1) pl.toNatClampNeg) then (r_X3_deskSays v (1 : Int32) pl) else (r_X3_deskSays v (0 : Int32) pl)) = tk then (1 : Int32) else (0 : Int32)))) H := vP_perm hP (pmI _).symm
      have hD : va_D A (cS cy a (w_X3_countGuess v pl tk (if (if (2 : Int32) ≤ ((v.1 1) pl.toNatClampNeg) then (r_X3_deskSays v (1 : Int32) pl) else (r_X3_deskSays v (0 : Int32) pl)) = tk then (1 : Int32) else (0 : Int32)))) := vD_perm hD (pmI _).symm
      refine lv_iload_n hx hb dX3_go_50 rfl (lv_at hl 4 rfl) ?_
      refine lv_iload hx hb dX3_go_51 (lv_at hl 5 rfl) ?_
      have J72_8 : ∀ (z_8 : SV) (hz_8 : z_8 = (if (r_X3_deskSays v (0 : Int32) pl) = (r_X3_deskSays v (1 : Int32) pl) then (w_X3_countGuess v pl tk (if (if (2 : Int32) ≤ ((v.1 1) pl.toNatClampNeg) then (r_X3_deskSays v (1 : Int32) pl) else (r_X3_deskSays v (0 : Int32) pl)) = tk then (1 : Int32) else (0 : Int32))) else (w_X3_moveChooser (w_X3_countGuess v pl tk (if (if (2 : Int32) ≤ ((v.1 1) pl.toNatClampNeg) then (r_X3_deskSays v (1 : Int32) pl) else (r_X3_deskSays v (0 : Int32) pl)) = tk then (1 : Int32) else (0 : Int32))) pl (if (r_X3_deskSays v (1 : Int32) pl) = tk then (1 : Int32) else (0 : Int32))))) (H : Heap) (locs : List Loc), va_P D vwCl (cS cy a z_8) H → va_D A (cS cy a z_8) → va_S A s.heap H locs → ∀ ls : Array Slot, lv_has ls 7 [(0, .ref (a 0 0)), (1, .int pl), (2, .int tk), (3, .int (r_X3_deskSays v (0 : Int32) pl)), (4, .int (r_X3_deskSays v (1 : Int32) pl)), (5, .int (if (if (2 : Int32) ≤ ((v.1 1) pl.toNatClampNeg) then (r_X3_deskSays v (1 : Int32) pl) else (r_X3_deskSays v (0 : Int32) pl)) = tk then (1 : Int32) else (0 : Int32)))] → W pp l e rX3_go s m ([.ref (a 0 0), .int pl, .int tk] : List Value).toArray below meth c H locs 0 0 Q (F0 m 72 ls []) := by
        intro z_8 hz_8 H locs hP hD hS ls hl
        subst hz_8
        have hP : va_P D vwCl (cS cy a (w_go1 v pl tk)) H := hP
        have hD : va_D A (cS cy a (w_go1 v pl tk)) := hD
        refine lv_iconst (v := 0) hx hb dX3_go_72 (by decide) ?_
        refine lv_istore (lv' := [(6, .int (0 : Int32)), (0, .ref (a 0 0)), (1, .int pl), (2, .int tk), (3, .int (r_X3_deskSays v (0 : Int32) pl)), (4, .int (r_X3_deskSays v (1 : Int32) pl)), (5, .int (if (if (2 : Int32) ≤ ((v.1 1) pl.toNatClampNeg) then (r_X3_deskSays v (1 : Int32) pl) else (r_X3_deskSays v (0 : Int32) pl)) = tk then (1 : Int32) else (0 : Int32)))]) hx hb dX3_go_73 hl (by decide) rfl (fun ls hl => ?_)
        refine lv_iload hx hb dX3_go_75 (lv_at hl 0 rfl) ?_
        refine lv_iconst (v := 2) hx hb dX3_go_77 (by decide) ?_
        refine lv_icmp_ge (tgt := 124) hx hb dX3_go_78 (by decide) (fun c_10 => absurd c_10 (by decide)) (fun c_10 => ?_)
        refine lv_aload_n hx hb dX3_go_81 rfl (lv_at hl 1 rfl) ?_
        refine va_get (D := D) (ci := 2) (v := .ref ((a 0) 2)) (C := RX3) (T := TX3) (N := 11) hx hb hts inX3_go_X3 hown hK hP 0 rfl rfl 1 (by decide) (hts _ (List.mem_of_getElem? (i := 2) rfl)) (fun _ h9 => h9) rfl dX3_go_82 ?_
        refine lv_iload hx hb dX3_go_85 (lv_at hl 0 rfl) ?_
        refine x_aldq (v := .ref ((a 1) 0)) hx hb hK hP 2 2 rfl rfl (vp_c (by decide)) rfl dX3_go_87 ?_
        refine lv_aload_n hx hb dX3_go_88 rfl (lv_at hl 1 rfl) ?_
        refine lv_iload hx hb dX3_go_89 (lv_at hl 0 rfl) ?_
        refine lv_iload_n hx hb dX3_go_91 rfl (lv_at hl 2 rfl) ?_
        refine cl_i (va_runV (As := [.int (0 : Int32), .int pl]) (rest := [.ref ((a 1) 0)]) ⟨hx, hb, hml, hown, hts⟩ (c_X3_noteFor l D cy a (w_go1 v pl tk) (0 : Int32) pl H.size (by first | exact Or.inl rfl | exact Or.inr rfl) hpl) (cwV 2 hts gX3_go_X3_noteFor rfl rfl rfl (by decide +kernel) ⟨Nat.le_of_ble_eq_true rfl, Nat.le_of_ble_eq_true rfl⟩) ⟨blU, va_recv hK hP (ci := 2) (q0 := 0) rfl rfl, preU hP hD (pmI _) hK hE hS hA⟩ rfl rfl hl.1 rfl (lv_room (Nat.le_of_ble_eq_true rfl)) dX3_go_92 ⟨Nat.le_of_ble_eq_true rfl, Nat.le_of_ble_eq_true rfl⟩) hP hD (pmI _) hS hA (fun H locs hP hD hS => ?_)
        have hP : va_P D vwCl (cS cy a (w_go1 v pl tk)) H := vP_perm hP (pmI _).symm
        have hD : va_D A (cS cy a (w_go1 v pl tk)) := vD_perm hD (pmI _).symm
        refine lv_iload_n hx hb dX3_go_95 rfl (lv_at hl 2 rfl) ?_
        refine lv_iload_n hx hb dX3_go_96 rfl (lv_at hl 3 rfl) ?_
        refine lv_aload_n hx hb dX3_go_97 rfl (lv_at hl 1 rfl) ?_
        refine va_get (D := D) (ci := 2) (v := .ref ((a 0) 1)) (C := RX3) (T := TX3) (N := 11) hx hb hts inX3_go_X3 hown hK hP 0 rfl rfl 0 (by decide) (hts _ (List.mem_of_getElem? (i := 3) rfl)) (fun _ h9 => h9) rfl dX3_go_98 ?_
        refine lv_iconst (v := 1) hx hb dX3_go_101 (by decide) ?_
        refine x_iald (f := ((w_go1 v pl tk).1 0)) (j := 1) hx hb hK hP 1 0 rfl rfl rfl (vp_c (by decide)) dX3_go_102 ?_
        refine cl_n (va_runV (As := [.int (r_X3_noteFor (w_go1 v pl tk) (0 : Int32) pl), .int pl, .int tk, .int (((w_go1 v pl tk).1 0) 1)]) (rest := []) ⟨hx, hb, hml, hown, hts⟩ (c_X0_use l D cy (a 1) ((w_go1 v pl tk).2.1) (r_X3_noteFor (w_go1 v pl tk) (0 : Int32) pl) pl tk (((w_go1 v pl tk).1 0) 1) H.size (note_inS _ _ _ (show szok ((w_go1 v pl tk).1 0 0) from by rw [go1_set]; exact hsz2))) (cwV 4 hts gX3_go_X0_use rfl rfl rfl (by decide +kernel) ⟨Nat.le_of_ble_eq_true rfl, Nat.le_of_ble_eq_true rfl⟩) ⟨blU, va_recv hK hP (ci := 0) (q0 := 7) rfl rfl, preU hP hD (pmB (bS cy a (w_go1 v pl tk)) 1 _ (cD cy (a 1) (w_X0_use ((w_go1 v pl tk).2.1) (r_X3_noteFor (w_go1 v pl tk) (0 : Int32) pl) pl tk (((w_go1 v pl tk).1 0) 1))) rfl).1 hK hE hS hA⟩ rfl rfl hl.1 rfl (lv_room (Nat.le_of_ble_eq_true rfl)) dX3_go_103 ⟨Nat.le_of_ble_eq_true rfl, Nat.le_of_ble_eq_true rfl⟩) hP hD (pmB (bS cy a (w_go1 v pl tk)) 1 _ (cD cy (a 1) (w_X0_use ((w_go1 v pl tk).2.1) (r_X3_noteFor (w_go1 v pl tk) (0 : Int32) pl) pl tk (((w_go1 v pl tk).1 0) 1))) rfl).1 hS hA (fun H locs hP hD hS => ?_)
        have hP : va_P D vwCl (cS cy a ((w_go1 v pl tk).1, (w_X0_use ((w_go1 v pl tk).2.1) (r_X3_noteFor (w_go1 v pl tk) (0 : Int32) pl) pl tk (((w_go1 v pl tk).1 0) 1)), (w_go1 v pl tk).2.2)) H := vP_perm hP (pmB (bS cy a (w_go1 v pl tk)) 1 _ (cD cy (a 1) (w_X0_use ((w_go1 v pl tk).2.1) (r_X3_noteFor (w_go1 v pl tk) (0 : Int32) pl) pl tk (((w_go1 v pl tk).1 0) 1))) rfl).2
        have hD : va_D A (cS cy a ((w_go1 v pl tk).1, (w_X0_use ((w_go1 v pl tk).2.1) (r_X3_noteFor (w_go1 v pl tk) (0 : Int32) pl) pl tk (((w_go1 v pl tk).1 0) 1)), (w_go1 v pl tk).2.2)) := vD_perm hD (pmB (bS cy a (w_go1 v pl tk)) 1 _ (cD cy (a 1) (w_X0_use ((w_go1 v pl tk).2.1) (r_X3_noteFor (w_go1 v pl tk) (0 : Int32) pl) pl tk (((w_go1 v pl tk).1 0) 1))) rfl).2
        refine lv_aload_n hx hb dX3_go_106 rfl (lv_at hl 1 rfl) ?_
        refine va_get (D := D) (ci := 2) (v := .ref ((a 0) 2)) (C := RX3) (T := TX3) (N := 11) hx hb hts inX3_go_X3 hown hK hP 0 rfl rfl 1 (by decide) (hts _ (List.mem_of_getElem? (i := 2) rfl)) (fun _ h9 => h9) rfl dX3_go_107 ?_
        refine lv_iload hx hb dX3_go_110 (lv_at hl 0 rfl) ?_
        refine x_aldq (v := .ref ((a 1) 0)) hx hb hK hP 2 2 rfl rfl (vp_c (by decide)) rfl dX3_go_112 ?_
        refine lv_iload_n hx hb dX3_go_113 rfl (lv_at hl 2 rfl) ?_
        refine lv_iload_n hx hb dX3_go_114 rfl (lv_at hl 3 rfl) ?_
        refine cl_n (va_runV (As := [.int pl, .int tk]) (rest := []) ⟨hx, hb, hml, hown, hts⟩ (c_X0_changePath l D cy (a 1) (w_X0_use ((w_go1 v pl tk).2.1) (r_X3_noteFor (w_go1 v pl tk) (0 : Int32) pl) pl tk (((w_go1 v pl tk).1 0) 1)) pl tk H.size hpl) (cwV 2 hts gX3_go_X0_changePath rfl rfl rfl (by decide +kernel) ⟨Nat.le_of_ble_eq_true rfl, Nat.le_of_ble_eq_true rfl⟩) ⟨blU, va_recv hK hP (ci := 0) (q0 := 7) rfl rfl, preU hP hD (pmB (bS cy a ((w_go1 v pl tk).1, (w_X0_use ((w_go1 v pl tk).2.1) (r_X3_noteFor (w_go1 v pl tk) (0 : Int32) pl) pl tk (((w_go1 v pl tk).1 0) 1)), (w_go1 v pl tk).2.2)) 1 _ (cD cy (a 1) (w_X0_changePath (w_X0_use ((w_go1 v pl tk).2.1) (r_X3_noteFor (w_go1 v pl tk) (0 : Int32) pl) pl tk (((w_go1 v pl tk).1 0) 1)) pl tk)) rfl).1 hK hE hS hA⟩ rfl rfl hl.1 rfl (lv_room (Nat.le_of_ble_eq_true rfl)) dX3_go_115 ⟨Nat.le_of_ble_eq_true rfl, Nat.le_of_ble_eq_true rfl⟩) hP hD (pmB (bS cy a ((w_go1 v pl tk).1, (w_X0_use ((w_go1 v pl tk).2.1) (r_X3_noteFor (w_go1 v pl tk) (0 : Int32) pl) pl tk (((w_go1 v pl tk).1 0) 1)), (w_go1 v pl tk).2.2)) 1 _ (cD cy (a 1) (w_X0_changePath (w_X0_use ((w_go1 v pl tk).2.1) (r_X3_noteFor (w_go1 v pl tk) (0 : Int32) pl) pl tk (((w_go1 v pl tk).1 0) 1)) pl tk)) rfl).1 hS hA (fun H locs hP hD hS => ?_)
        have hP : va_P D vwCl (cS cy a ((w_go1 v pl tk).1, (w_X0_changePath (w_X0_use ((w_go1 v pl tk).2.1) (r_X3_noteFor (w_go1 v pl tk) (0 : Int32) pl) pl tk (((w_go1 v pl tk).1 0) 1)) pl tk), (w_go1 v pl tk).2.2)) H := vP_perm hP (pmB (bS cy a ((w_go1 v pl tk).1, (w_X0_use ((w_go1 v pl tk).2.1) (r_X3_noteFor (w_go1 v pl tk) (0 : Int32) pl) pl tk (((w_go1 v pl tk).1 0) 1)), (w_go1 v pl tk).2.2)) 1 _ (cD cy (a 1) (w_X0_changePath (w_X0_use ((w_go1 v pl tk).2.1) (r_X3_noteFor (w_go1 v pl tk) (0 : Int32) pl) pl tk (((w_go1 v pl tk).1 0) 1)) pl tk)) rfl).2
        have hD : va_D A (cS cy a ((w_go1 v pl tk).1, (w_X0_changePath (w_X0_use ((w_go1 v pl tk).2.1) (r_X3_noteFor (w_go1 v pl tk) (0 : Int32) pl) pl tk (((w_go1 v pl tk).1 0) 1)) pl tk), (w_go1 v pl tk).2.2)) := vD_perm hD (pmB (bS cy a ((w_go1 v pl tk).1, (w_X0_use ((w_go1 v pl tk).2.1) (r_X3_noteFor (w_go1 v pl tk) (0 : Int32) pl) pl tk (((w_go1 v pl tk).1 0) 1)), (w_go1 v pl tk).2.2)) 1 _ (cD cy (a 1) (w_X0_changePath (w_X0_use ((w_go1 v pl tk).2.1) (r_X3_noteFor (w_go1 v pl tk) (0 : Int32) pl) pl tk (((w_go1 v pl tk).1 0) 1)) pl tk)) rfl).2
        refine lv_iinc (v := (1 : Int32)) (lv' := [(6, .int (1 : Int32)), (0, .ref (a 0 0)), (1, .int pl), (2, .int tk), (3, .int (r_X3_deskSays v (0 : Int32) pl)), (4, .int (r_X3_deskSays v (1 : Int32) pl)), (5, .int (if (if (2 : Int32) ≤ ((v.1 1) pl.toNatClampNeg) then (r_X3_deskSays v (1 : Int32) pl) else (r_X3_deskSays v (0 : Int32) pl)) = tk then (1 : Int32) else (0 : Int32)))]) hx hb dX3_go_118 hl (k := 0) rfl (by decide) (by decide) rfl (fun ls hl => ?_)
        refine lv_goto (tgt := 75) hx hb dX3_go_121 (by decide) ?_
        refine lv_iload hx hb dX3_go_75 (lv_at hl 0 rfl) ?_
        refine lv_iconst (v := 2) hx hb dX3_go_77 (by decide) ?_
        refine lv_icmp_ge (tgt := 124) hx hb dX3_go_78 (by decide) (fun c_11 => absurd c_11 (by decide)) (fun c_11 => ?_)
        refine lv_aload_n hx hb dX3_go_81 rfl (lv_at hl 1 rfl) ?_
        refine va_get (D := D) (ci := 2) (v := .ref ((a 0) 2)) (C := RX3) (T := TX3) (N := 11) hx hb hts inX3_go_X3 hown hK hP 0 rfl rfl 1 (by decide) (hts _ (List.mem_of_getElem? (i := 2) rfl)) (fun _ h9 => h9) rfl dX3_go_82 ?_
        refine lv_iload hx hb dX3_go_85 (lv_at hl 0 rfl) ?_
        refine x_aldq (v := .ref ((a 2) 0)) hx hb hK hP 2 2 rfl rfl (vp_c (by decide)) rfl dX3_go_87 ?_
        refine lv_aload_n hx hb dX3_go_88 rfl (lv_at hl 1 rfl) ?_
        refine lv_iload hx hb dX3_go_89 (lv_at hl 0 rfl) ?_
        refine lv_iload_n hx hb dX3_go_91 rfl (lv_at hl 2 rfl) ?_
        refine cl_i (va_runV (As := [.int (1 : Int32), .int pl]) (rest := [.ref ((a 2) 0)]) ⟨hx, hb, hml, hown, hts⟩ (c_X3_noteFor l D cy a ((w_go1 v pl tk).1, (w_X0_changePath (w_X0_use ((w_go1 v pl tk).2.1) (r_X3_noteFor (w_go1 v pl tk) (0 : Int32) pl) pl tk (((w_go1 v pl tk).1 0) 1)) pl tk), (w_go1 v pl tk).2.2) (1 : Int32) pl H.size (by first | exact Or.inl rfl | exact Or.inr rfl) hpl) (cwV 2 hts gX3_go_X3_noteFor rfl rfl rfl (by decide +kernel) ⟨Nat.le_of_ble_eq_true rfl, Nat.le_of_ble_eq_true rfl⟩) ⟨blU, va_recv hK hP (ci := 2) (q0 := 0) rfl rfl, preU hP hD (pmI _) hK hE hS hA⟩ rfl rfl hl.1 rfl (lv_room (Nat.le_of_ble_eq_true rfl)) dX3_go_92 ⟨Nat.le_of_ble_eq_true rfl, Nat.le_of_ble_eq_true rfl⟩) hP hD (pmI _) hS hA (fun H locs hP hD hS => ?_)
        have hP : va_P D vwCl (cS cy a ((w_go1 v pl tk).1, (w_X0_changePath (w_X0_use ((w_go1 v pl tk).2.1) (r_X3_noteFor (w_go1 v pl tk) (0 : Int32) pl) pl tk (((w_go1 v pl tk).1 0) 1)) pl tk), (w_go1 v pl tk).2.2)) H := vP_perm hP (pmI _).symm
        have hD : va_D A (cS cy a ((w_go1 v pl tk).1, (w_X0_changePath (w_X0_use ((w_go1 v pl tk).2.1) (r_X3_noteFor (w_go1 v pl tk) (0 : Int32) pl) pl tk (((w_go1 v pl tk).1 0) 1)) pl tk), (w_go1 v pl tk).2.2)) := vD_perm hD (pmI _).symm
        refine lv_iload_n hx hb dX3_go_95 rfl (lv_at hl 2 rfl) ?_
        refine lv_iload_n hx hb dX3_go_96 rfl (lv_at hl 3 rfl) ?_
        refine lv_aload_n hx hb dX3_go_97 rfl (lv_at hl 1 rfl) ?_
        refine va_get (D := D) (ci := 2) (v := .ref ((a 0) 1)) (C := RX3) (T := TX3) (N := 11) hx hb hts inX3_go_X3 hown hK hP 0 rfl rfl 0 (by decide) (hts _ (List.mem_of_getElem? (i := 3) rfl)) (fun _ h9 => h9) rfl dX3_go_98 ?_
        refine lv_iconst (v := 1) hx hb dX3_go_101 (by decide) ?_
        refine x_iald (f := ((w_go1 v pl tk).1 0)) (j := 1) hx hb hK hP 1 0 rfl rfl rfl (vp_c (by decide)) dX3_go_102 ?_
        refine cl_n (va_runV (As := [.int (r_X3_noteFor ((w_go1 v pl tk).1, (w_X0_changePath (w_X0_use ((w_go1 v pl tk).2.1) (r_X3_noteFor (w_go1 v pl tk) (0 : Int32) pl) pl tk (((w_go1 v pl tk).1 0) 1)) pl tk), (w_go1 v pl tk).2.2) (1 : Int32) pl), .int pl, .int tk, .int (((w_go1 v pl tk).1 0) 1)]) (rest := []) ⟨hx, hb, hml, hown, hts⟩ (c_X0_use l D cy (a 2) ((w_go1 v pl tk).2.2) (r_X3_noteFor ((w_go1 v pl tk).1, (w_X0_changePath (w_X0_use ((w_go1 v pl tk).2.1) (r_X3_noteFor (w_go1 v pl tk) (0 : Int32) pl) pl tk (((w_go1 v pl tk).1 0) 1)) pl tk), (w_go1 v pl tk).2.2) (1 : Int32) pl) pl tk (((w_go1 v pl tk).1 0) 1) H.size (note_inS _ _ _ (show szok ((w_go1 v pl tk).1 0 0) from by rw [go1_set]; exact hsz2))) (cwV 4 hts gX3_go_X0_use rfl rfl rfl (by decide +kernel) ⟨Nat.le_of_ble_eq_true rfl, Nat.le_of_ble_eq_true rfl⟩) ⟨blU, va_recv hK hP (ci := 0) (q0 := 14) rfl rfl, preU hP hD (pmB (bS cy a ((w_go1 v pl tk).1, (w_X0_changePath (w_X0_use ((w_go1 v pl tk).2.1) (r_X3_noteFor (w_go1 v pl tk) (0 : Int32) pl) pl tk (((w_go1 v pl tk).1 0) 1)) pl tk), (w_go1 v pl tk).2.2)) 2 _ (cD cy (a 2) (w_X0_use ((w_go1 v pl tk).2.2) (r_X3_noteFor ((w_go1 v pl tk).1, (w_X0_changePath (w_X0_use ((w_go1 v pl tk).2.1) (r_X3_noteFor (w_go1 v pl tk) (0 : Int32) pl) pl tk (((w_go1 v pl tk).1 0) 1)) pl tk), (w_go1 v pl tk).2.2) (1 : Int32) pl) pl tk (((w_go1 v pl tk).1 0) 1))) rfl).1 hK hE hS hA⟩ rfl rfl hl.1 rfl (lv_room (Nat.le_of_ble_eq_true rfl)) dX3_go_103 ⟨Nat.le_of_ble_eq_true rfl, Nat.le_of_ble_eq_true rfl⟩) hP hD (pmB (bS cy a ((w_go1 v pl tk).1, (w_X0_changePath (w_X0_use ((w_go1 v pl tk).2.1) (r_X3_noteFor (w_go1 v pl tk) (0 : Int32) pl) pl tk (((w_go1 v pl tk).1 0) 1)) pl tk), (w_go1 v pl tk).2.2)) 2 _ (cD cy (a 2) (w_X0_use ((w_go1 v pl tk).2.2) (r_X3_noteFor ((w_go1 v pl tk).1, (w_X0_changePath (w_X0_use ((w_go1 v pl tk).2.1) (r_X3_noteFor (w_go1 v pl tk) (0 : Int32) pl) pl tk (((w_go1 v pl tk).1 0) 1)) pl tk), (w_go1 v pl tk).2.2) (1 : Int32) pl) pl tk (((w_go1 v pl tk).1 0) 1))) rfl).1 hS hA (fun H locs hP hD hS => ?_)
        have hP : va_P D vwCl (cS cy a ((w_go1 v pl tk).1, (w_X0_changePath (w_X0_use ((w_go1 v pl tk).2.1) (r_X3_noteFor (w_go1 v pl tk) (0 : Int32) pl) pl tk (((w_go1 v pl tk).1 0) 1)) pl tk), (w_X0_use ((w_go1 v pl tk).2.2) (r_X3_noteFor ((w_go1 v pl tk).1, (w_X0_changePath (w_X0_use ((w_go1 v pl tk).2.1) (r_X3_noteFor (w_go1 v pl tk) (0 : Int32) pl) pl tk (((w_go1 v pl tk).1 0) 1)) pl tk), (w_go1 v pl tk).2.2) (1 : Int32) pl) pl tk (((w_go1 v pl tk).1 0) 1)))) H := vP_perm hP (pmB (bS cy a ((w_go1 v pl tk).1, (w_X0_changePath (w_X0_use ((w_go1 v pl tk).2.1) (r_X3_noteFor (w_go1 v pl tk) (0 : Int32) pl) pl tk (((w_go1 v pl tk).1 0) 1)) pl tk), (w_go1 v pl tk).2.2)) 2 _ (cD cy (a 2) (w_X0_use ((w_go1 v pl tk).2.2) (r_X3_noteFor ((w_go1 v pl tk).1, (w_X0_changePath (w_X0_use ((w_go1 v pl tk).2.1) (r_X3_noteFor (w_go1 v pl tk) (0 : Int32) pl) pl tk (((w_go1 v pl tk).1 0) 1)) pl tk), (w_go1 v pl tk).2.2) (1 : Int32) pl) pl tk (((w_go1 v pl tk).1 0) 1))) rfl).2
        have hD : va_D A (cS cy a ((w_go1 v pl tk).1, (w_X0_changePath (w_X0_use ((w_go1 v pl tk).2.1) (r_X3_noteFor (w_go1 v pl tk) (0 : Int32) pl) pl tk (((w_go1 v pl tk).1 0) 1)) pl tk), (w_X0_use ((w_go1 v pl tk).2.2) (r_X3_noteFor ((w_go1 v pl tk).1, (w_X0_changePath (w_X0_use ((w_go1 v pl tk).2.1) (r_X3_noteFor (w_go1 v pl tk) (0 : Int32) pl) pl tk (((w_go1 v pl tk).1 0) 1)) pl tk), (w_go1 v pl tk).2.2) (1 : Int32) pl) pl tk (((w_go1 v pl tk).1 0) 1)))) := vD_perm hD (pmB (bS cy a ((w_go1 v pl tk).1, (w_X0_changePath (w_X0_use ((w_go1 v pl tk).2.1) (r_X3_noteFor (w_go1 v pl tk) (0 : Int32) pl) pl tk (((w_go1 v pl tk).1 0) 1)) pl tk), (w_go1 v pl tk).2.2)) 2 _ (cD cy (a 2) (w_X0_use ((w_go1 v pl tk).2.2) (r_X3_noteFor ((w_go1 v pl tk).1, (w_X0_changePath (w_X0_use ((w_go1 v pl tk).2.1) (r_X3_noteFor (w_go1 v pl tk) (0 : Int32) pl) pl tk (((w_go1 v pl tk).1 0) 1)) pl tk), (w_go1 v pl tk).2.2) (1 : Int32) pl) pl tk (((w_go1 v pl tk).1 0) 1))) rfl).2
        refine lv_aload_n hx hb dX3_go_106 rfl (lv_at hl 1 rfl) ?_
        refine va_get (D := D) (ci := 2) (v := .ref ((a 0) 2)) (C := RX3) (T := TX3) (N := 11) hx hb hts inX3_go_X3 hown hK hP 0 rfl rfl 1 (by decide) (hts _ (List.mem_of_getElem? (i := 2) rfl)) (fun _ h9 => h9) rfl dX3_go_107 ?_
        refine lv_iload hx hb dX3_go_110 (lv_at hl 0 rfl) ?_
        refine x_aldq (v := .ref ((a 2) 0)) hx hb hK hP 2 2 rfl rfl (vp_c (by decide)) rfl dX3_go_112 ?_
        refine lv_iload_n hx hb dX3_go_113 rfl (lv_at hl 2 rfl) ?_
        refine lv_iload_n hx hb dX3_go_114 rfl (lv_at hl 3 rfl) ?_
        refine cl_n (va_runV (As := [.int pl, .int tk]) (rest := []) ⟨hx, hb, hml, hown, hts⟩ (c_X0_changePath l D cy (a 2) (w_X0_use ((w_go1 v pl tk).2.2) (r_X3_noteFor ((w_go1 v pl tk).1, (w_X0_changePath (w_X0_use ((w_go1 v pl tk).2.1) (r_X3_noteFor (w_go1 v pl tk) (0 : Int32) pl) pl tk (((w_go1 v pl tk).1 0) 1)) pl tk), (w_go1 v pl tk).2.2) (1 : Int32) pl) pl tk (((w_go1 v pl tk).1 0) 1)) pl tk H.size hpl) (cwV 2 hts gX3_go_X0_changePath rfl rfl rfl (by decide +kernel) ⟨Nat.le_of_ble_eq_true rfl, Nat.le_of_ble_eq_true rfl⟩) ⟨blU, va_recv hK hP (ci := 0) (q0 := 14) rfl rfl, preU hP hD (pmB (bS cy a ((w_go1 v pl tk).1, (w_X0_changePath (w_X0_use ((w_go1 v pl tk).2.1) (r_X3_noteFor (w_go1 v pl tk) (0 : Int32) pl) pl tk (((w_go1 v pl tk).1 0) 1)) pl tk), (w_X0_use ((w_go1 v pl tk).2.2) (r_X3_noteFor ((w_go1 v pl tk).1, (w_X0_changePath (w_X0_use ((w_go1 v pl tk).2.1) (r_X3_noteFor (w_go1 v pl tk) (0 : Int32) pl) pl tk (((w_go1 v pl tk).1 0) 1)) pl tk), (w_go1 v pl tk).2.2) (1 : Int32) pl) pl tk (((w_go1 v pl tk).1 0) 1)))) 2 _ (cD cy (a 2) (w_X0_changePath (w_X0_use ((w_go1 v pl tk).2.2) (r_X3_noteFor ((w_go1 v pl tk).1, (w_X0_changePath (w_X0_use ((w_go1 v pl tk).2.1) (r_X3_noteFor (w_go1 v pl tk) (0 : Int32) pl) pl tk (((w_go1 v pl tk).1 0) 1)) pl tk), (w_go1 v pl tk).2.2) (1 : Int32) pl) pl tk (((w_go1 v pl tk).1 0) 1)) pl tk)) rfl).1 hK hE hS hA⟩ rfl rfl hl.1 rfl (lv_room (Nat.le_of_ble_eq_true rfl)) dX3_go_115 ⟨Nat.le_of_ble_eq_true rfl, Nat.le_of_ble_eq_true rfl⟩) hP hD (pmB (bS cy a ((w_go1 v pl tk).1, (w_X0_changePath (w_X0_use ((w_go1 v pl tk).2.1) (r_X3_noteFor (w_go1 v pl tk) (0 : Int32) pl) pl tk (((w_go1 v pl tk).1 0) 1)) pl tk), (w_X0_use ((w_go1 v pl tk).2.2) (r_X3_noteFor ((w_go1 v pl tk).1, (w_X0_changePath (w_X0_use ((w_go1 v pl tk).2.1) (r_X3_noteFor (w_go1 v pl tk) (0 : Int32) pl) pl tk (((w_go1 v pl tk).1 0) 1)) pl tk), (w_go1 v pl tk).2.2) (1 : Int32) pl) pl tk (((w_go1 v pl tk).1 0) 1)))) 2 _ (cD cy (a 2) (w_X0_changePath (w_X0_use ((w_go1 v pl tk).2.2) (r_X3_noteFor ((w_go1 v pl tk).1, (w_X0_changePath (w_X0_use ((w_go1 v pl tk).2.1) (r_X3_noteFor (w_go1 v pl tk) (0 : Int32) pl) pl tk (((w_go1 v pl tk).1 0) 1)) pl tk), (w_go1 v pl tk).2.2) (1 : Int32) pl) pl tk (((w_go1 v pl tk).1 0) 1)) pl tk)) rfl).1 hS hA (fun H locs hP hD hS => ?_)
        have hP : va_P D vwCl (cS cy a ((w_go1 v pl tk).1, (w_X0_changePath (w_X0_use ((w_go1 v pl tk).2.1) (r_X3_noteFor (w_go1 v pl tk) (0 : Int32) pl) pl tk (((w_go1 v pl tk).1 0) 1)) pl tk), (w_X0_changePath (w_X0_use ((w_go1 v pl tk).2.2) (r_X3_noteFor ((w_go1 v pl tk).1, (w_X0_changePath (w_X0_use ((w_go1 v pl tk).2.1) (r_X3_noteFor (w_go1 v pl tk) (0 : Int32) pl) pl tk (((w_go1 v pl tk).1 0) 1)) pl tk), (w_go1 v pl tk).2.2) (1 : Int32) pl) pl tk (((w_go1 v pl tk).1 0) 1)) pl tk))) H := vP_perm hP (pmB (bS cy a ((w_go1 v pl tk).1, (w_X0_changePath (w_X0_use ((w_go1 v pl tk).2.1) (r_X3_noteFor (w_go1 v pl tk) (0 : Int32) pl) pl tk (((w_go1 v pl tk).1 0) 1)) pl tk), (w_X0_use ((w_go1 v pl tk).2.2) (r_X3_noteFor ((w_go1 v pl tk).1, (w_X0_changePath (w_X0_use ((w_go1 v pl tk).2.1) (r_X3_noteFor (w_go1 v pl tk) (0 : Int32) pl) pl tk (((w_go1 v pl tk).1 0) 1)) pl tk), (w_go1 v pl tk).2.2) (1 : Int32) pl) pl tk (((w_go1 v pl tk).1 0) 1)))) 2 _ (cD cy (a 2) (w_X0_changePath (w_X0_use ((w_go1 v pl tk).2.2) (r_X3_noteFor ((w_go1 v pl tk).1, (w_X0_changePath (w_X0_use ((w_go1 v pl tk).2.1) (r_X3_noteFor (w_go1 v pl tk) (0 : Int32) pl) pl tk (((w_go1 v pl tk).1 0) 1)) pl tk), (w_go1 v pl tk).2.2) (1 : Int32) pl) pl tk (((w_go1 v pl tk).1 0) 1)) pl tk)) rfl).2
        have hD : va_D A (cS cy a ((w_go1 v pl tk).1, (w_X0_changePath (w_X0_use ((w_go1 v pl tk).2.1) (r_X3_noteFor (w_go1 v pl tk) (0 : Int32) pl) pl tk (((w_go1 v pl tk).1 0) 1)) pl tk), (w_X0_changePath (w_X0_use ((w_go1 v pl tk).2.2) (r_X3_noteFor ((w_go1 v pl tk).1, (w_X0_changePath (w_X0_use ((w_go1 v pl tk).2.1) (r_X3_noteFor (w_go1 v pl tk) (0 : Int32) pl) pl tk (((w_go1 v pl tk).1 0) 1)) pl tk), (w_go1 v pl tk).2.2) (1 : Int32) pl) pl tk (((w_go1 v pl tk).1 0) 1)) pl tk))) := vD_perm hD (pmB (bS cy a ((w_go1 v pl tk).1, (w_X0_changePath (w_X0_use ((w_go1 v pl tk).2.1) (r_X3_noteFor (w_go1 v pl tk) (0 : Int32) pl) pl tk (((w_go1 v pl tk).1 0) 1)) pl tk), (w_X0_use ((w_go1 v pl tk).2.2) (r_X3_noteFor ((w_go1 v pl tk).1, (w_X0_changePath (w_X0_use ((w_go1 v pl tk).2.1) (r_X3_noteFor (w_go1 v pl tk) (0 : Int32) pl) pl tk (((w_go1 v pl tk).1 0) 1)) pl tk), (w_go1 v pl tk).2.2) (1 : Int32) pl) pl tk (((w_go1 v pl tk).1 0) 1)))) 2 _ (cD cy (a 2) (w_X0_changePath (w_X0_use ((w_go1 v pl tk).2.2) (r_X3_noteFor ((w_go1 v pl tk).1, (w_X0_changePath (w_X0_use ((w_go1 v pl tk).2.1) (r_X3_noteFor (w_go1 v pl tk) (0 : Int32) pl) pl tk (((w_go1 v pl tk).1 0) 1)) pl tk), (w_go1 v pl tk).2.2) (1 : Int32) pl) pl tk (((w_go1 v pl tk).1 0) 1)) pl tk)) rfl).2
        refine lv_iinc (v := (2 : Int32)) (lv' := [(6, .int (2 : Int32)), (0, .ref (a 0 0)), (1, .int pl), (2, .int tk), (3, .int (r_X3_deskSays v (0 : Int32) pl)), (4, .int (r_X3_deskSays v (1 : Int32) pl)), (5, .int (if (if (2 : Int32) ≤ ((v.1 1) pl.toNatClampNeg) then (r_X3_deskSays v (1 : Int32) pl) else (r_X3_deskSays v (0 : Int32) pl)) = tk then (1 : Int32) else (0 : Int32)))]) hx hb dX3_go_118 hl (k := 0) rfl (by decide) (by decide) rfl (fun ls hl => ?_)
        refine lv_goto (tgt := 75) hx hb dX3_go_121 (by decide) ?_
        refine lv_iload hx hb dX3_go_75 (lv_at hl 0 rfl) ?_
        refine lv_iconst (v := 2) hx hb dX3_go_77 (by decide) ?_
        refine lv_icmp_ge (tgt := 124) hx hb dX3_go_78 (by decide) (fun c_12 => ?_) (fun c_12 => absurd (by decide) c_12)
        refine lv_iload hx hb dX3_go_124 (lv_at hl 6 rfl) ?_
        have hr9 : (if (if (2 : Int32) ≤ ((v.1 1) pl.toNatClampNeg) then (r_X3_deskSays v (1 : Int32) pl) else (r_X3_deskSays v (0 : Int32) pl)) = tk then (1 : Int32) else (0 : Int32)) = (r_X3_go v pl tk) := by rfl
        have hw9 : (w_X3_go v pl tk) = ((w_go1 v pl tk).1, (w_X0_changePath (w_X0_use ((w_go1 v pl tk).2.1) (r_X3_noteFor (w_go1 v pl tk) (0 : Int32) pl) pl tk (((w_go1 v pl tk).1 0) 1)) pl tk), (w_X0_changePath (w_X0_use ((w_go1 v pl tk).2.2) (r_X3_noteFor ((w_go1 v pl tk).1, (w_X0_changePath (w_X0_use ((w_go1 v pl tk).2.1) (r_X3_noteFor (w_go1 v pl tk) (0 : Int32) pl) pl tk (((w_go1 v pl tk).1 0) 1)) pl tk), (w_go1 v pl tk).2.2) (1 : Int32) pl) pl tk (((w_go1 v pl tk).1 0) 1)) pl tk)) := by rfl
        exact hret _ H locs _ ls hr9 (by rw [hw9]; exact hP) (by rw [hw9]; exact hD) hS dX3_go_126
      refine lv_icmp_eq (tgt := 72) hx hb dX3_go_53 (by decide) (fun c_7 => ?_) (fun c_7 => ?_)
      · exact J72_8 (w_X3_countGuess v pl tk (if (if (2 : Int32) ≤ ((v.1 1) pl.toNatClampNeg) then (r_X3_deskSays v (1 : Int32) pl) else (r_X3_deskSays v (0 : Int32) pl)) = tk then (1 : Int32) else (0 : Int32))) (by simp only [if_pos c_7, if_true, if_false]) H locs hP hD hS ls (lv_sub hl [1, 2, 3, 4, 5, 0] rfl)
      · refine lv_aload_n hx hb dX3_go_56 rfl (lv_at hl 1 rfl) ?_
        refine lv_iload_n hx hb dX3_go_57 rfl (lv_at hl 2 rfl) ?_
        refine lv_iload hx hb dX3_go_58 (lv_at hl 5 rfl) ?_
        refine lv_iload_n hx hb dX3_go_60 rfl (lv_at hl 3 rfl) ?_
        have J69_14 : ∀ (z_14 : Int32) (hz_14 : z_14 = (if (r_X3_deskSays v (1 : Int32) pl) = tk then (1 : Int32) else (0 : Int32))) (H : Heap) (locs : List Loc), va_P D vwCl (cS cy a (w_X3_countGuess v pl tk (if (if (2 : Int32) ≤ ((v.1 1) pl.toNatClampNeg) then (r_X3_deskSays v (1 : Int32) pl) else (r_X3_deskSays v (0 : Int32) pl)) = tk then (1 : Int32) else (0 : Int32)))) H → va_D A (cS cy a (w_X3_countGuess v pl tk (if (if (2 : Int32) ≤ ((v.1 1) pl.toNatClampNeg) then (r_X3_deskSays v (1 : Int32) pl) else (r_X3_deskSays v (0 : Int32) pl)) = tk then (1 : Int32) else (0 : Int32)))) → va_S A s.heap H locs → ∀ ls : Array Slot, lv_has ls 7 [(0, .ref (a 0 0)), (1, .int pl), (2, .int tk), (3, .int (r_X3_deskSays v (0 : Int32) pl)), (4, .int (r_X3_deskSays v (1 : Int32) pl)), (5, .int (if (if (2 : Int32) ≤ ((v.1 1) pl.toNatClampNeg) then (r_X3_deskSays v (1 : Int32) pl) else (r_X3_deskSays v (0 : Int32) pl)) = tk then (1 : Int32) else (0 : Int32)))] → W pp l e rX3_go s m ([.ref (a 0 0), .int pl, .int tk] : List Value).toArray below meth c H locs 0 0 Q (F0 m 69 ls [.int z_14, .int pl, .ref (a 0 0)]) := by
          intro z_14 hz_14 H locs hP hD hS ls hl
          subst hz_14
          refine cl_n (va_runV (As := [.int pl, .int (if (r_X3_deskSays v (1 : Int32) pl) = tk then (1 : Int32) else (0 : Int32))]) (rest := []) ⟨hx, hb, hml, hown, hts⟩ (c_X3_moveChooser l D cy a (w_X3_countGuess v pl tk (if (if (2 : Int32) ≤ ((v.1 1) pl.toNatClampNeg) then (r_X3_deskSays v (1 : Int32) pl) else (r_X3_deskSays v (0 : Int32) pl)) = tk then (1 : Int32) else (0 : Int32))) pl (if (r_X3_deskSays v (1 : Int32) pl) = tk then (1 : Int32) else (0 : Int32)) H.size hpl) (cwV 2 hts gX3_go_X3_moveChooser rfl rfl rfl (by decide +kernel) ⟨Nat.le_of_ble_eq_true rfl, Nat.le_of_ble_eq_true rfl⟩) ⟨blU, va_recv hK hP (ci := 2) (q0 := 0) rfl rfl, preU hP hD (pmI _) hK hE hS hA⟩ rfl rfl hl.1 rfl (lv_room (Nat.le_of_ble_eq_true rfl)) dX3_go_69 ⟨Nat.le_of_ble_eq_true rfl, Nat.le_of_ble_eq_true rfl⟩) hP hD (pmI _) hS hA (fun H locs hP hD hS => ?_)
          have hP : va_P D vwCl (cS cy a (w_X3_moveChooser (w_X3_countGuess v pl tk (if (if (2 : Int32) ≤ ((v.1 1) pl.toNatClampNeg) then (r_X3_deskSays v (1 : Int32) pl) else (r_X3_deskSays v (0 : Int32) pl)) = tk then (1 : Int32) else (0 : Int32))) pl (if (r_X3_deskSays v (1 : Int32) pl) = tk then (1 : Int32) else (0 : Int32)))) H := vP_perm hP (pmI _).symm
          have hD : va_D A (cS cy a (w_X3_moveChooser (w_X3_countGuess v pl tk (if (if (2 : Int32) ≤ ((v.1 1) pl.toNatClampNeg) then (r_X3_deskSays v (1 : Int32) pl) else (r_X3_deskSays v (0 : Int32) pl)) = tk then (1 : Int32) else (0 : Int32))) pl (if (r_X3_deskSays v (1 : Int32) pl) = tk then (1 : Int32) else (0 : Int32)))) := vD_perm hD (pmI _).symm
          exact J72_8 (w_X3_moveChooser (w_X3_countGuess v pl tk (if (if (2 : Int32) ≤ ((v.1 1) pl.toNatClampNeg) then (r_X3_deskSays v (1 : Int32) pl) else (r_X3_deskSays v (0 : Int32) pl)) = tk then (1 : Int32) else (0 : Int32))) pl (if (r_X3_deskSays v (1 : Int32) pl) = tk then (1 : Int32) else (0 : Int32))) (by simp only [if_neg c_7, if_true, if_false]) H locs hP hD hS ls (lv_sub hl [0, 1, 2, 3, 4, 5] rfl)
        refine lv_icmp_ne (tgt := 68) hx hb dX3_go_61 (by decide) (fun c_13 => ?_) (fun c_13 => ?_)
        · refine lv_iconst (v := 0) hx hb dX3_go_68 (by decide) ?_
          exact J69_14 (0 : Int32) (by simp only [if_neg c_13, if_true, if_false]) H locs hP hD hS ls (lv_sub hl [1, 2, 3, 4, 5, 0] rfl)
        · refine lv_iconst (v := 1) hx hb dX3_go_64 (by decide) ?_
          refine lv_goto (tgt := 69) hx hb dX3_go_65 (by decide) ?_
          exact J69_14 (1 : Int32) (by simp only [if_pos c_13, if_true, if_false]) H locs hP hD hS ls (lv_sub hl [1, 2, 3, 4, 5, 0] rfl)
    refine lv_icmp_ne (tgt := 39) hx hb dX3_go_32 (by decide) (fun c_4 => ?_) (fun c_4 => ?_)
    · refine lv_iconst (v := 0) hx hb dX3_go_39 (by decide) ?_
      exact J40_5 (0 : Int32) (by simp only [if_neg c_4, if_true, if_false]) H locs hP hD hS ls (lv_sub hl [0, 1, 2, 3, 4] rfl)
    · refine lv_iconst (v := 1) hx hb dX3_go_35 (by decide) ?_
      refine lv_goto (tgt := 40) hx hb dX3_go_36 (by decide) ?_
      exact J40_5 (1 : Int32) (by simp only [if_pos c_4, if_true, if_false]) H locs hP hD hS ls (lv_sub hl [0, 1, 2, 3, 4] rfl)
  refine lv_icmp_ge (tgt := 29) hx hb dX3_go_22 (by decide) (fun c_1 => ?_) (fun c_1 => ?_)
  · refine lv_iload hx hb dX3_go_29 (lv_at hl 0 rfl) ?_
    exact J31_2 (r_X3_deskSays v (1 : Int32) pl) (by simp only [if_pos c_1, if_true, if_false]) H locs hP hD hS ls (lv_sub hl [2, 3, 4, 1, 0] rfl)
  · refine lv_iload_n hx hb dX3_go_25 rfl (lv_at hl 1 rfl) ?_
    refine lv_goto (tgt := 31) hx hb dX3_go_26 (by decide) ?_
    exact J31_2 (r_X3_deskSays v (0 : Int32) pl) (by simp only [if_neg c_1, if_true, if_false]) H locs hP hD hS ls (lv_sub hl [2, 3, 4, 1, 0] rfl)

theorem go_set (v : SV) (pl tk : Int32) : (w_X3_go v pl tk).1 0 = v.1 0 := by
  unfold w_X3_go
  exact go1_set v pl tk
/-- the first n steps of a text go -/
def goN (x : RV) : Nat → SV → SV
  | 0, v => v
  | n + 1, v => w_X3_go (goN x n v) (x 1 n / 2) (if (x 1 n - x 1 n / 2 * 2) = 1 then 1 else 0)
theorem goN_set (x : RV) (v : SV) : ∀ n, (goN x n v).1 0 = v.1 0
  | 0 => rfl
  | n + 1 => (go_set _ _ _).trans (goN_set x v n)
def stepsOf (x : RV) : Nat := min (x 4 0).toNatClampNeg 300
def w_X3_goAll (v : SV) (x : RV) : SV := goN x (stepsOf x) v
def stepok (x : RV) : Prop := ∀ j, j < stepsOf x → vp_in (x 1 j / 2) 26
theorem lt_ofc {y : Int32} {i : Nat} (h : i < y.toNatClampNeg) (hi : i < 2 ^ 31) : ¬ y ≤ nI i := by
  intro q
  have h1 : y.toInt ≤ (nI i).toInt := (fa_le' y (nI i)).mp q
  rw [nI_toInt hi] at h1
  have h2 : (y.toNatClampNeg : Int) = max y.toInt 0 := tncn y
  omega
theorem ge_ofc {y : Int32} {i : Nat} (h : ¬ i < y.toNatClampNeg) (hi : i < 2 ^ 31) : y ≤ nI i := by
  refine (fa_le' y (nI i)).mpr ?_
  rw [nI_toInt hi]
  have h2 : (y.toNatClampNeg : Int) = max y.toInt 0 := tncn y
  omega

abbrev rX3_goAll : Room := { frames := 4, cells := 0, slots := 0, locals := 94 }
theorem inX3_goAll_X4 : ∀ w ∈ u_ws RX4 TX4 8, w ∈ wsX3_goAll := by decide +kernel
set_option maxHeartbeats 4000000 in
set_option maxRecDepth 100000 in
theorem c_X3_goAll (l : Launch) (D : va_G) (cy : Nat → ClassId) (a : Nat → Nat → Nat) (b : Nat → Nat) (v : SV) (x : RV)  (sz : Nat) (hsz2 : szok (v.1 0 0)) (hok : stepok x) : CN l yX3_goAll wsX3_goAll rX3_goAll D cy [.ref (a 0 0), .ref (b 0)] (cS cy a v ++ cT cy b x) sz (cS cy a (w_X3_goAll v x) ++ cT cy b x) 0 0 := by
  refine st_n (cc := cX3_goAll) (maxL := 4) (by decide) rfl (Nat.le_of_ble_eq_true rfl) ?_
  intro pp e s m below meth c A Q ls hx hb hts hown hml hlocks hsz hP hK hD hE hA hl hret
  subst hsz
  have hown : s.vm.findClass RX3 = some m.cls := hown
  have hl : lv_has ls 4 [(0, .ref (a 0 0)), (1, .ref (b 0))] := hl
  obtain ⟨H, hH⟩ : ∃ H, H = s.heap := ⟨_, rfl⟩
  rw [← hH] at hP ⊢
  have hS : va_S A s.heap H [] := by rw [hH]; exact va_S.rf
  obtain ⟨locs, hlo⟩ : ∃ locs : List Loc, locs = [] := ⟨_, rfl⟩
  rw [← hlo] at hS ⊢
  have hloop : ∀ (k i : Nat), i + k = stepsOf x → ∀ (H : Heap) (locs : List Loc), va_P D vwCl (cS cy a (goN x i v) ++ cT cy b x) H → va_D A (cS cy a (goN x i v) ++ cT cy b x) → va_S A s.heap H locs → ∀ ls : Array Slot, lv_has ls 4 [(0, .ref (a 0 0)), (1, .ref (b 0)), (2, .int (nI i))] → W pp l e rX3_goAll s m ([.ref (a 0 0), .ref (b 0)] : List Value).toArray below meth c H locs 0 0 Q (F0 m 2 ls []) := by
    have hN : stepsOf x ≤ 300 := Nat.min_le_right _ _
    have hN2 : stepsOf x ≤ (x 4 0).toNatClampNeg := Nat.min_le_left _ _
    intro k
    induction k with
    | zero =>
      intro i hi H locs hP hD hS ls hl
      have hi : i = stepsOf x := by omega
      by_cases hc : i < (x 4 0).toNatClampNeg
      · refine lv_iload_n hx hb dX3_goAll_2 rfl (lv_at hl 2 rfl) ?_
        refine lv_aload_n hx hb dX3_goAll_3 rfl (lv_at hl 1 rfl) ?_
        refine va_get (D := D) (ci := 3) (v := .int (x 4 0)) (C := RX4) (T := TX4) (N := 8) hx hb hts inX3_goAll_X4 hown hK hP 21 rfl rfl 3 (by decide) (hts _ (List.mem_of_getElem? (i := 1) rfl)) (fun _ h9 => h9) rfl dX3_goAll_4 ?_
        refine lv_icmp_ge (tgt := 50) hx hb dX3_goAll_7 (by decide) (fun c_1 => absurd c_1 (lt_ofc hc (by omega))) (fun c_1 => ?_)
        refine lv_iload_n hx hb dX3_goAll_10 rfl (lv_at hl 2 rfl) ?_
        refine lv_sipush (v := 300) hx hb dX3_goAll_11 (by decide) ?_
        refine lv_icmp_ge (tgt := 50) hx hb dX3_goAll_14 (by decide) (fun c_2 => ?_) (fun c_2 => absurd (show (300 : Int32) ≤ nI i from (by have h3 : i = 300 := (by have := hi; unfold stepsOf at this; omega); rw [h3]; exact Int32.le_refl _)) c_2)
        have hw9 : goN x i v = w_X3_goAll v x := by rw [hi]; rfl
        exact hret H locs _ ls (by rw [← hw9]; exact hP) (by rw [← hw9]; exact hD) hS dX3_goAll_50
      · refine lv_iload_n hx hb dX3_goAll_2 rfl (lv_at hl 2 rfl) ?_
        refine lv_aload_n hx hb dX3_goAll_3 rfl (lv_at hl 1 rfl) ?_
        refine va_get (D := D) (ci := 3) (v := .int (x 4 0)) (C := RX4) (T := TX4) (N := 8) hx hb hts inX3_goAll_X4 hown hK hP 21 rfl rfl 3 (by decide) (hts _ (List.mem_of_getElem? (i := 1) rfl)) (fun _ h9 => h9) rfl dX3_goAll_4 ?_
        refine lv_icmp_ge (tgt := 50) hx hb dX3_goAll_7 (by decide) (fun c_3 => ?_) (fun c_3 => absurd (ge_ofc hc (by omega)) c_3)
        have hw9 : goN x i v = w_X3_goAll v x := by rw [hi]; rfl
        exact hret H locs _ ls (by rw [← hw9]; exact hP) (by rw [← hw9]; exact hD) hS dX3_goAll_50
    | succ k ih =>
      intro i hi H locs hP hD hS ls hl
      refine lv_iload_n hx hb dX3_goAll_2 rfl (lv_at hl 2 rfl) ?_
      refine lv_aload_n hx hb dX3_goAll_3 rfl (lv_at hl 1 rfl) ?_
      refine va_get (D := D) (ci := 3) (v := .int (x 4 0)) (C := RX4) (T := TX4) (N := 8) hx hb hts inX3_goAll_X4 hown hK hP 21 rfl rfl 3 (by decide) (hts _ (List.mem_of_getElem? (i := 1) rfl)) (fun _ h9 => h9) rfl dX3_goAll_4 ?_
      refine lv_icmp_ge (tgt := 50) hx hb dX3_goAll_7 (by decide) (fun c_4 => absurd c_4 (lt_ofc (by omega) (by omega))) (fun c_4 => ?_)
      refine lv_iload_n hx hb dX3_goAll_10 rfl (lv_at hl 2 rfl) ?_
      refine lv_sipush (v := 300) hx hb dX3_goAll_11 (by decide) ?_
      refine lv_icmp_ge (tgt := 50) hx hb dX3_goAll_14 (by decide) (fun c_5 => absurd c_5 (nI_ge (a := i) (b := 300) (by omega) (by decide))) (fun c_5 => ?_)
      refine lv_aload_n hx hb dX3_goAll_17 rfl (lv_at hl 1 rfl) ?_
      refine va_get (D := D) (ci := 3) (v := .ref (b 2)) (C := RX4) (T := TX4) (N := 8) hx hb hts inX3_goAll_X4 hown hK hP 21 rfl rfl 2 (by decide) (hts _ (List.mem_of_getElem? (i := 2) rfl)) (fun _ h9 => h9) rfl dX3_goAll_18 ?_
      refine lv_iload_n hx hb dX3_goAll_21 rfl (lv_at hl 2 rfl) ?_
      refine x_iald (f := (x 1)) (j := i) hx hb hK hP 23 0 rfl rfl (nI_clamp (by omega)) (vp_in_nI (by omega) (by decide)) dX3_goAll_22 ?_
      refine lv_istore_n (lv' := [(3, .int ((x 1) i)), (0, .ref (a 0 0)), (1, .ref (b 0)), (2, .int (nI i))]) hx hb dX3_goAll_23 rfl hl (by decide) rfl (fun ls hl => ?_)
      refine lv_aload_n hx hb dX3_goAll_24 rfl (lv_at hl 1 rfl) ?_
      refine lv_iload_n hx hb dX3_goAll_25 rfl (lv_at hl 0 rfl) ?_
      refine lv_iconst (v := 2) hx hb dX3_goAll_26 (by decide) ?_
      refine lv_idiv hx hb dX3_goAll_27 (by decide) ?_
      refine lv_iload_n hx hb dX3_goAll_28 rfl (lv_at hl 0 rfl) ?_
      refine lv_iconst (v := 2) hx hb dX3_goAll_29 (by decide) ?_
      refine lv_irem hx hb dX3_goAll_30 (by decide) ?_
      refine lv_iconst (v := 1) hx hb dX3_goAll_31 (by decide) ?_
      have J40_7 : ∀ (z_7 : Int32) (hz_7 : z_7 = (if (((x 1) i) - ((x 1) i) / (2 : Int32) * (2 : Int32)) = (1 : Int32) then (1 : Int32) else (0 : Int32))) (H : Heap) (locs : List Loc), va_P D vwCl (cS cy a (goN x i v) ++ cT cy b x) H → va_D A (cS cy a (goN x i v) ++ cT cy b x) → va_S A s.heap H locs → ∀ ls : Array Slot, lv_has ls 4 [(0, .ref (a 0 0)), (1, .ref (b 0)), (2, .int (nI i)), (3, .int ((x 1) i))] → W pp l e rX3_goAll s m ([.ref (a 0 0), .ref (b 0)] : List Value).toArray below meth c H locs 0 0 Q (F0 m 40 ls [.int z_7, .int (((x 1) i) / (2 : Int32)), .ref (a 0 0)]) := by
        intro z_7 hz_7 H locs hP hD hS ls hl
        subst hz_7
        refine cl_i (va_runV (As := [.int (((x 1) i) / (2 : Int32)), .int (if (((x 1) i) - ((x 1) i) / (2 : Int32) * (2 : Int32)) = (1 : Int32) then (1 : Int32) else (0 : Int32))]) (rest := []) ⟨hx, hb, hml, hown, hts⟩ (c_X3_go l D cy a (goN x i v) (((x 1) i) / (2 : Int32)) (if (((x 1) i) - ((x 1) i) / (2 : Int32) * (2 : Int32)) = (1 : Int32) then (1 : Int32) else (0 : Int32)) H.size (hok i (by omega)) (show szok ((goN x i v).1 0 0) from by rw [goN_set]; exact hsz2)) (cwV 2 hts gX3_goAll_X3_go rfl rfl rfl (by decide +kernel) ⟨Nat.le_of_ble_eq_true rfl, Nat.le_of_ble_eq_true rfl⟩) ⟨blU, va_recv hK hP (ci := 2) (q0 := 0) rfl rfl, preU hP hD (pmB [cS cy a (goN x i v), cT cy b x] 0 _ (cS cy a (w_X3_go (goN x i v) (((x 1) i) / (2 : Int32)) (if (((x 1) i) - ((x 1) i) / (2 : Int32) * (2 : Int32)) = (1 : Int32) then (1 : Int32) else (0 : Int32)))) rfl).1 hK hE hS hA⟩ rfl rfl hl.1 rfl (lv_room (Nat.le_of_ble_eq_true rfl)) dX3_goAll_40 ⟨Nat.le_of_ble_eq_true rfl, Nat.le_of_ble_eq_true rfl⟩) hP hD (pmB [cS cy a (goN x i v), cT cy b x] 0 _ (cS cy a (w_X3_go (goN x i v) (((x 1) i) / (2 : Int32)) (if (((x 1) i) - ((x 1) i) / (2 : Int32) * (2 : Int32)) = (1 : Int32) then (1 : Int32) else (0 : Int32)))) rfl).1 hS hA (fun H locs hP hD hS => ?_)
        have hP : va_P D vwCl (cS cy a (w_X3_go (goN x i v) (((x 1) i) / (2 : Int32)) (if (((x 1) i) - ((x 1) i) / (2 : Int32) * (2 : Int32)) = (1 : Int32) then (1 : Int32) else (0 : Int32))) ++ cT cy b x) H := vP_perm hP (pmB [cS cy a (goN x i v), cT cy b x] 0 _ (cS cy a (w_X3_go (goN x i v) (((x 1) i) / (2 : Int32)) (if (((x 1) i) - ((x 1) i) / (2 : Int32) * (2 : Int32)) = (1 : Int32) then (1 : Int32) else (0 : Int32)))) rfl).2
        have hD : va_D A (cS cy a (w_X3_go (goN x i v) (((x 1) i) / (2 : Int32)) (if (((x 1) i) - ((x 1) i) / (2 : Int32) * (2 : Int32)) = (1 : Int32) then (1 : Int32) else (0 : Int32))) ++ cT cy b x) := vD_perm hD (pmB [cS cy a (goN x i v), cT cy b x] 0 _ (cS cy a (w_X3_go (goN x i v) (((x 1) i) / (2 : Int32)) (if (((x 1) i) - ((x 1) i) / (2 : Int32) * (2 : Int32)) = (1 : Int32) then (1 : Int32) else (0 : Int32)))) rfl).2
        refine lv_pop hx hb dX3_goAll_43 rfl ?_
        refine lv_iinc (v := (nI (i + 1))) (lv' := [(2, .int (nI (i + 1))), (0, .ref (a 0 0)), (1, .ref (b 0)), (3, .int ((x 1) i))]) hx hb dX3_goAll_44 hl (k := 2) rfl (nI_1 i) (by decide) rfl (fun ls hl => ?_)
        refine lv_goto (tgt := 2) hx hb dX3_goAll_47 (by decide) ?_
        exact ih (i + 1) (by omega) H locs hP hD hS ls (lv_sub hl [1, 2, 0] rfl)
      refine lv_icmp_ne (tgt := 39) hx hb dX3_goAll_32 (by decide) (fun c_6 => ?_) (fun c_6 => ?_)
      · refine lv_iconst (v := 0) hx hb dX3_goAll_39 (by decide) ?_
        exact J40_7 (0 : Int32) (by simp only [if_neg c_6, if_true, if_false]) H locs hP hD hS ls (lv_sub hl [1, 2, 3, 0] rfl)
      · refine lv_iconst (v := 1) hx hb dX3_goAll_35 (by decide) ?_
        refine lv_goto (tgt := 40) hx hb dX3_goAll_36 (by decide) ?_
        exact J40_7 (1 : Int32) (by simp only [if_pos c_6, if_true, if_false]) H locs hP hD hS ls (lv_sub hl [1, 2, 3, 0] rfl)
  refine lv_iconst (v := 0) hx hb dX3_goAll_0 (by decide) ?_
  refine lv_istore_n (lv' := [(2, .int (0 : Int32)), (0, .ref (a 0 0)), (1, .ref (b 0))]) hx hb dX3_goAll_1 rfl hl (by decide) rfl (fun ls hl => ?_)
  exact hloop (stepsOf x) 0 (by omega) H locs hP hD hS ls (lv_sub hl [1, 2, 0] rfl)

