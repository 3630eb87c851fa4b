/-! ===== the law: refuses ===== -/
theorem ccg (l : Launch) (hlt : l.stackTraces = false) (D : va_G) (cy : Nat → ClassId) (ad : AD) {B : Nat} {V V' : BV} (hB : BInv B V) (pl tk : Int32) {r : Int32} (hr : r_L_tryGo V pl tk = r) (hw : w_X5_branch V pl tk = V') (sz : Nat) :
    CI l yL_tryGo wsL_tryGo rL_tryGo D cy [.ref (ad 0 0 0), .int pl, .int tk] (wB cy ad V) sz r (wB cy ad V') 1 6 := by
  subst hr
  subst hw
  exact c_L_tryGo l hlt D cy ad V pl tk sz hB.ho hB.sz
theorem ccs (l : Launch) (hlt : l.stackTraces = false) (D : va_G) (cy : Nat → ClassId) (ad : AD) {B : Nat} {V V' : BV} (hB : BInv B V) (seed : Int64) (n : Int32) {r : Int32} (hr : r_L_trySimulate V seed n = r) (hw : w_X5_simulate V seed n = V') (sz : Nat) :
    CI l yL_trySimulate wsL_trySimulate rL_trySimulate D cy [.ref (ad 0 0 0), .long seed, .int n] (wB cy ad V) sz r (wB cy ad V') 1 6 := by
  subst hr
  subst hw
  exact c_L_trySimulate l hlt D cy ad V seed n sz hB.sz
theorem cct (l : Launch) (hlt : l.stackTraces = false) (D : va_G) (cy : Nat → ClassId) (ad : AD) {B : Nat} {V V' : BV} (hB : BInv B V) (n : Int32) (sc : Int64) {r : Int32} (hr : r_L_tryScript V n sc = r) (hw : w_X5_runScript V n sc = V') (sz : Nat) :
    CI l yL_tryScript wsL_tryScript rL_tryScript D cy [.ref (ad 0 0 0), .int n, .long sc] (wB cy ad V) sz r (wB cy ad V') 1 6 := by
  subst hr
  subst hw
  exact c_L_tryScript l hlt D cy ad V n sc sz hB.sz
theorem ci_eq {l : Launch} {y : MethodName} {wy : List Cond} {rm : Room} {D : va_G} {cy : Nat → ClassId} {av : List Value} {ws : va_W} {sz mc ms : Nat} {ad : AD} {r r' : Int32} {V V' : BV} (h : CI l y wy rm D cy av ws sz r (wB cy ad V) mc ms) (hr : r = r') (hw : V = V') : CI l y wy rm D cy av ws sz r' (wB cy ad V') mc ms := by
  subst hr
  subst hw
  exact h
abbrev rL_refuses : Room := { frames := 10, cells := 98, slots := 588, locals := 209 }
theorem m1_neg {k : Nat} (h : k < 9) : ((-1 : Int32) - nI k).toInt < 0 := by
  have hk : k = 0 ∨ k = 1 ∨ k = 2 ∨ k = 3 ∨ k = 4 ∨ k = 5 ∨ k = 6 ∨ k = 7 ∨ k = 8 := by omega
  rcases hk with rfl | rfl | rfl | rfl | rfl | rfl | rfl | rfl | rfl <;> decide +kernel
theorem d2_of {x y : Int32} {n : Nat} (h : y = nI (n % 2)) : y = 0 ∨ y = 1 := by
  rcases (by omega : n % 2 = 0 ∨ n % 2 = 1) with q | q
  · exact Or.inl (by rw [h, q]; rfl)
  · exact Or.inr (by rw [h, q]; rfl)
set_option maxHeartbeats 4000000 in
set_option maxRecDepth 100000 in
theorem c_L_refuses (l : Launch) (hlt : l.stackTraces = false) (D : va_G) (cy : Nat → ClassId) (ad : AD) {B : Nat} {V : BV} (hB : BInv B V) {x : Int32} {n : Nat} (hxn : x = nI n) (hn : n < 2 ^ 31) (sz : Nat) : CI l yL_refuses wsL_refuses rL_refuses D cy [.ref (ad 0 0 0), .int x] (wB cy ad V) sz 1 (wB cy ad V) 98 588 := by
  have hB1 := hB.2.1
  obtain ⟨N0, hN0, z, m0, q0, ⟨⟨z1, z2, z3⟩, ⟨m1, m2, m3⟩, q1, q2⟩, _, _, _⟩ := hB1
  have h64' : 2 ^ z ≤ 64 := Nat.le_trans (Nat.pow_le_pow_right (by decide) z2) (by decide)
  have h64 : 2 ^ z < 2 ^ 31 := by omega
  obtain ⟨nt, ent⟩ : ∃ nt : Int32, (1 : Int32) <<< (nI z &&& 31) = nt := ⟨_, rfl⟩
  have ent2 : nt = nI (2 ^ z) := by rw [← ent]; exact shl_z z1 z2
  have ntne : ¬ nt = 0 := by rw [ent2]; exact nI_ne0 (Nat.two_pow_pos z) h64
  have eN : x - x / nt * nt = nI (n % 2 ^ z) := rm_of hxn hn ent2 (Nat.two_pow_pos z) h64
  have e9 : x - x / (9 : Int32) * (9 : Int32) = nI (n % 9) := rm_of hxn hn rfl (by decide) (by decide)
  have k9 : n % 9 < 9 := Nat.mod_lt _ (by decide)
  have e2 : x - x / (2 : Int32) * (2 : Int32) = nI (n % 2) := rm_of hxn hn rfl (by decide) (by decide)
  have d2 := d2_of (x := x) e2
  have e26 : x - x / (26 : Int32) * (26 : Int32) = nI (n % 26) := rm_of hxn hn rfl (by decide) (by decide)
  clear hN0 q1 q2 m1 m2
  refine st_i (ty := .boolean) (cc := cL_refuses) (maxL := 5) (by decide) rfl rfl (Nat.le_of_ble_eq_true rfl) ?_
  intro pp e s m below meth c A Q ls hx hb hts hown hml hlocks hsz hP hK hD hE hA hl hret
  subst hsz
  have hown : s.vm.findClass RL = some m.cls := hown
  have hl : lv_has ls 5 [(0, .ref (ad 0 0 0)), (1, .int x)] := hl
  obtain ⟨H, hH⟩ : ∃ H, H = s.heap := ⟨_, rfl⟩
  rw [← hH] at hP ⊢
  have hS : va_S A s.heap H [] := by rw [hH]; exact va_S.rf
  obtain ⟨locs, hlo⟩ : ∃ locs : List Loc, locs = [] := ⟨_, rfl⟩
  rw [← hlo] at hS ⊢
  have sg5 : ∀ (H : Heap) (locs : List Loc), va_P D vwCl (wB cy ad V) H → va_D A (wB cy ad V) → va_S A s.heap H locs → ∀ ls : Array Slot, lv_has ls 5 [(4, .int (1 : Int32)), (3, .int (nI m0)), (2, .int nt), (0, .ref (ad 0 0 0)), (1, .int x)] → W pp l e rL_refuses s m ([.ref (ad 0 0 0), .int x] : List Value).toArray below meth c H locs 95 570 Q (F0 m 577 ls []) := by
    intro H locs hP hD hS ls hl
    refine lv_iload hx hb dL_refuses_577 (lv_at hl 0 rfl) ?_
    refine lv_if_eq (tgt := 629) hx hb dL_refuses_579 (by decide) (fun c_36 => absurd c_36 (by decide)) (fun c_36 => ?_)
    refine lv_aload_n hx hb dL_refuses_582 rfl (lv_at hl 3 rfl) ?_
    refine lv_iconst (v := 4) hx hb dL_refuses_583 (by decide) ?_
    refine lv_lconst (v := 0) hx hb dL_refuses_584 rfl ?_
    refine cl_i (vx_runSW (As := [.ref (ad 0 0 0), .int (4 : Int32), .long (0 : Int64)]) (rest := []) ⟨hx, hb, hml, hown, hts⟩ (cct l hlt D cy ad (B := B) (V := V) (V' := V) hB (4 : Int32) (0 : Int64) (r := (-9999002 : Int32)) ((fa_sc4 V 0).1) ((fa_sc4 V 0).2) H.size) (vx_cwSW 3 hts gL_refuses_L_tryScript rfl rfl rfl (by decide +kernel) ⟨Nat.le_of_ble_eq_true rfl, Nat.le_of_ble_eq_true rfl⟩) ⟨blU, preU hP hD (pmI _) hK hE hS hA⟩ rfl rfl hl.1 rfl (lv_room (Nat.le_of_ble_eq_true rfl)) dL_refuses_585 ⟨Nat.le_of_ble_eq_true rfl, Nat.le_of_ble_eq_true rfl⟩) hP hD (pmI _) hS hA (fun H locs hP hD hS => ?_)
    have hP : va_P D vwCl (wB cy ad V) H := vP_perm hP (pmI _).symm
    have hD : va_D A (wB cy ad V) := vD_perm hD (pmI _).symm
    refine lv_ldc (v := (-9999002)) hx hb hown (hts _ (List.mem_of_getElem? (i := 1) rfl)) dL_refuses_588 ?_
    refine lv_icmp_ne (tgt := 629) hx hb dL_refuses_590 (by decide) (fun c_37 => absurd (by decide) c_37) (fun c_37 => ?_)
    refine lv_aload_n hx hb dL_refuses_593 rfl (lv_at hl 3 rfl) ?_
    refine lv_iconst (v := 1) hx hb dL_refuses_594 (by decide) ?_
    refine lv_ldc2 (v := (100000)) hx hb hown (hts _ (List.mem_of_getElem? (i := 3) rfl)) dL_refuses_595 ?_
    refine lv_iload_n hx hb dL_refuses_598 rfl (lv_at hl 4 rfl) ?_
    refine lv_i2l (v := x.toInt64) hx hb dL_refuses_599 rfl ?_
    refine lv_ladd hx hb dL_refuses_600 ?_
    refine cl_i (vx_runSW (As := [.ref (ad 0 0 0), .int (1 : Int32), .long ((100000 : Int64) + x.toInt64)]) (rest := []) ⟨hx, hb, hml, hown, hts⟩ (cct l hlt D cy ad (B := B) (V := V) (V' := V) hB (1 : Int32) ((100000 : Int64) + x.toInt64) (r := (-9999002 : Int32)) ((fa_sc1 V hxn hn).1) ((fa_sc1 V hxn hn).2) H.size) (vx_cwSW 3 hts gL_refuses_L_tryScript rfl rfl rfl (by decide +kernel) ⟨Nat.le_of_ble_eq_true rfl, Nat.le_of_ble_eq_true rfl⟩) ⟨blU, preU hP hD (pmI _) hK hE hS hA⟩ rfl rfl hl.1 rfl (lv_room (Nat.le_of_ble_eq_true rfl)) dL_refuses_601 ⟨Nat.le_of_ble_eq_true rfl, Nat.le_of_ble_eq_true rfl⟩) hP hD (pmI _) hS hA (fun H locs hP hD hS => ?_)
    have hP : va_P D vwCl (wB cy ad V) H := vP_perm hP (pmI _).symm
    have hD : va_D A (wB cy ad V) := vD_perm hD (pmI _).symm
    refine lv_ldc (v := (-9999002)) hx hb hown (hts _ (List.mem_of_getElem? (i := 1) rfl)) dL_refuses_604 ?_
    refine lv_icmp_ne (tgt := 629) hx hb dL_refuses_606 (by decide) (fun c_38 => absurd (by decide) c_38) (fun c_38 => ?_)
    refine lv_aload_n hx hb dL_refuses_609 rfl (lv_at hl 3 rfl) ?_
    refine lv_iconst (v := 2) hx hb dL_refuses_610 (by decide) ?_
    refine lv_ldc2 (v := (-1)) hx hb hown (hts _ (List.mem_of_getElem? (i := 4) rfl)) dL_refuses_611 ?_
    refine lv_iload_n hx hb dL_refuses_614 rfl (lv_at hl 4 rfl) ?_
    refine lv_i2l (v := x.toInt64) hx hb dL_refuses_615 rfl ?_
    refine lv_lsub hx hb dL_refuses_616 ?_
    refine cl_i (vx_runSW (As := [.ref (ad 0 0 0), .int (2 : Int32), .long ((-1 : Int64) - x.toInt64)]) (rest := []) ⟨hx, hb, hml, hown, hts⟩ (cct l hlt D cy ad (B := B) (V := V) (V' := V) hB (2 : Int32) ((-1 : Int64) - x.toInt64) (r := (-9999002 : Int32)) ((fa_sc2 V hxn hn).1) ((fa_sc2 V hxn hn).2) H.size) (vx_cwSW 3 hts gL_refuses_L_tryScript rfl rfl rfl (by decide +kernel) ⟨Nat.le_of_ble_eq_true rfl, Nat.le_of_ble_eq_true rfl⟩) ⟨blU, preU hP hD (pmI _) hK hE hS hA⟩ rfl rfl hl.1 rfl (lv_room (Nat.le_of_ble_eq_true rfl)) dL_refuses_617 ⟨Nat.le_of_ble_eq_true rfl, Nat.le_of_ble_eq_true rfl⟩) hP hD (pmI _) hS hA (fun H locs hP hD hS => ?_)
    have hP : va_P D vwCl (wB cy ad V) H := vP_perm hP (pmI _).symm
    have hD : va_D A (wB cy ad V) := vD_perm hD (pmI _).symm
    refine lv_ldc (v := (-9999002)) hx hb hown (hts _ (List.mem_of_getElem? (i := 1) rfl)) dL_refuses_620 ?_
    refine lv_icmp_ne (tgt := 629) hx hb dL_refuses_622 (by decide) (fun c_39 => absurd (by decide) c_39) (fun c_39 => ?_)
    refine lv_iconst (v := 1) hx hb dL_refuses_625 (by decide) ?_
    refine lv_goto (tgt := 630) hx hb dL_refuses_626 (by decide) ?_
    exact hret _ H locs _ ls rfl hP hD hS dL_refuses_630
  have sg4 : ∀ (H : Heap) (locs : List Loc), va_P D vwCl (wB cy ad V) H → va_D A (wB cy ad V) → va_S A s.heap H locs → ∀ ls : Array Slot, lv_has ls 5 [(4, .int (1 : Int32)), (3, .int (nI m0)), (2, .int nt), (0, .ref (ad 0 0 0)), (1, .int x)] → W pp l e rL_refuses s m ([.ref (ad 0 0 0), .int x] : List Value).toArray below meth c H locs 85 510 Q (F0 m 505 ls []) := by
    intro H locs hP hD hS ls hl
    refine lv_iload hx hb dL_refuses_505 (lv_at hl 0 rfl) ?_
    refine lv_if_eq (tgt := 574) hx hb dL_refuses_507 (by decide) (fun c_31 => absurd c_31 (by decide)) (fun c_31 => ?_)
    refine lv_aload_n hx hb dL_refuses_510 rfl (lv_at hl 3 rfl) ?_
    refine lv_bipush (v := 17) hx hb dL_refuses_511 (by decide) ?_
    refine lv_iconst (v := 2) hx hb dL_refuses_513 (by decide) ?_
    refine lv_iconst (v := 0) hx hb dL_refuses_514 (by decide) ?_
    refine lv_iconst (v := 0) hx hb dL_refuses_515 (by decide) ?_
    refine cl_i (va_runS (As := [.ref (ad 0 0 0), .int (17 : Int32), .int (2 : Int32), .int (0 : Int32), .int (0 : Int32)]) (rest := []) ⟨hx, hb, hml, hown, hts⟩ (cca l hlt D cy ad (B := B) (V := V) (V' := V) hB (what := (17 : Int32)) (a := (2 : Int32)) (b := (0 : Int32)) (c := (0 : Int32)) (r := (-9999001 : Int32)) ((fa_ke V 0 0 (Or.inl (by decide))).1) ((fa_ke V 0 0 (Or.inl (by decide))).2) (n15 (by decide)) H.size) (va_cwS 5 hts gL_refuses_L_call rfl rfl rfl (by decide +kernel) ⟨Nat.le_of_ble_eq_true rfl, Nat.le_of_ble_eq_true rfl⟩) ⟨blU, preU hP hD (pmI _) hK hE hS hA⟩ rfl rfl hl.1 rfl (lv_room (Nat.le_of_ble_eq_true rfl)) dL_refuses_516 ⟨Nat.le_of_ble_eq_true rfl, Nat.le_of_ble_eq_true rfl⟩) hP hD (pmI _) hS hA (fun H locs hP hD hS => ?_)
    have hP : va_P D vwCl (wB cy ad V) H := vP_perm hP (pmI _).symm
    have hD : va_D A (wB cy ad V) := vD_perm hD (pmI _).symm
    refine lv_ldc (v := (-9999001)) hx hb hown (hts _ (List.mem_of_getElem? (i := 2) rfl)) dL_refuses_519 ?_
    refine lv_icmp_ne (tgt := 574) hx hb dL_refuses_521 (by decide) (fun c_32 => absurd (by decide) c_32) (fun c_32 => ?_)
    refine lv_aload_n hx hb dL_refuses_524 rfl (lv_at hl 3 rfl) ?_
    refine lv_bipush (v := 18) hx hb dL_refuses_525 (by decide) ?_
    refine lv_iconst (v := -1) hx hb dL_refuses_527 (by decide) ?_
    refine lv_iconst (v := 0) hx hb dL_refuses_528 (by decide) ?_
    refine lv_iconst (v := 0) hx hb dL_refuses_529 (by decide) ?_
    refine cl_i (va_runS (As := [.ref (ad 0 0 0), .int (18 : Int32), .int (-1 : Int32), .int (0 : Int32), .int (0 : Int32)]) (rest := []) ⟨hx, hb, hml, hown, hts⟩ (cca l hlt D cy ad (B := B) (V := V) (V' := V) hB (what := (18 : Int32)) (a := (-1 : Int32)) (b := (0 : Int32)) (c := (0 : Int32)) (r := (-9999001 : Int32)) ((fa_ba V 0 0 (Or.inr (by decide))).1) ((fa_ba V 0 0 (Or.inr (by decide))).2) (n15 (by decide)) H.size) (va_cwS 5 hts gL_refuses_L_call rfl rfl rfl (by decide +kernel) ⟨Nat.le_of_ble_eq_true rfl, Nat.le_of_ble_eq_true rfl⟩) ⟨blU, preU hP hD (pmI _) hK hE hS hA⟩ rfl rfl hl.1 rfl (lv_room (Nat.le_of_ble_eq_true rfl)) dL_refuses_530 ⟨Nat.le_of_ble_eq_true rfl, Nat.le_of_ble_eq_true rfl⟩) hP hD (pmI _) hS hA (fun H locs hP hD hS => ?_)
    have hP : va_P D vwCl (wB cy ad V) H := vP_perm hP (pmI _).symm
    have hD : va_D A (wB cy ad V) := vD_perm hD (pmI _).symm
    refine lv_ldc (v := (-9999001)) hx hb hown (hts _ (List.mem_of_getElem? (i := 2) rfl)) dL_refuses_533 ?_
    refine lv_icmp_ne (tgt := 574) hx hb dL_refuses_535 (by decide) (fun c_33 => absurd (by decide) c_33) (fun c_33 => ?_)
    refine lv_aload_n hx hb dL_refuses_538 rfl (lv_at hl 3 rfl) ?_
    refine lv_iconst (v := 0) hx hb dL_refuses_539 (by decide) ?_
    refine lv_sipush (v := 256) hx hb dL_refuses_540 (by decide) ?_
    refine lv_iload_n hx hb dL_refuses_543 rfl (lv_at hl 4 rfl) ?_
    refine lv_bipush (v := 9) hx hb dL_refuses_544 (by decide) ?_
    refine lv_irem hx hb dL_refuses_546 (by decide) ?_
    refine lv_iadd hx hb dL_refuses_547 ?_
    refine lv_iconst (v := 0) hx hb dL_refuses_548 (by decide) ?_
    refine lv_iconst (v := 0) hx hb dL_refuses_549 (by decide) ?_
    refine cl_i (va_runS (As := [.ref (ad 0 0 0), .int (0 : Int32), .int ((256 : Int32) + (x - x / (9 : Int32) * (9 : Int32))), .int (0 : Int32), .int (0 : Int32)]) (rest := []) ⟨hx, hb, hml, hown, hts⟩ (cca l hlt D cy ad (B := B) (V := V) (V' := V) hB (what := (0 : Int32)) (a := ((256 : Int32) + (x - x / (9 : Int32) * (9 : Int32)))) (b := (0 : Int32)) (c := (0 : Int32)) (r := (-9999002 : Int32)) ((fa_ap V 0 0 (by rw [ti_add (c := (256 : Int32)) (n := 256) rfl e9 (by omega)]; omega)).1) ((fa_ap V 0 0 (by rw [ti_add (c := (256 : Int32)) (n := 256) rfl e9 (by omega)]; omega)).2) (n15 (by decide)) H.size) (va_cwS 5 hts gL_refuses_L_call rfl rfl rfl (by decide +kernel) ⟨Nat.le_of_ble_eq_true rfl, Nat.le_of_ble_eq_true rfl⟩) ⟨blU, preU hP hD (pmI _) hK hE hS hA⟩ rfl rfl hl.1 rfl (lv_room (Nat.le_of_ble_eq_true rfl)) dL_refuses_550 ⟨Nat.le_of_ble_eq_true rfl, Nat.le_of_ble_eq_true rfl⟩) hP hD (pmI _) hS hA (fun H locs hP hD hS => ?_)
    have hP : va_P D vwCl (wB cy ad V) H := vP_perm hP (pmI _).symm
    have hD : va_D A (wB cy ad V) := vD_perm hD (pmI _).symm
    refine lv_ldc (v := (-9999002)) hx hb hown (hts _ (List.mem_of_getElem? (i := 1) rfl)) dL_refuses_553 ?_
    refine lv_icmp_ne (tgt := 574) hx hb dL_refuses_555 (by decide) (fun c_34 => absurd (by decide) c_34) (fun c_34 => ?_)
    refine lv_aload_n hx hb dL_refuses_558 rfl (lv_at hl 3 rfl) ?_
    refine lv_iload_n hx hb dL_refuses_559 rfl (lv_at hl 4 rfl) ?_
    refine lv_i2l (v := x.toInt64) hx hb dL_refuses_560 rfl ?_
    refine lv_iconst (v := 0) hx hb dL_refuses_561 (by decide) ?_
    refine cl_i (vx_runSW (As := [.ref (ad 0 0 0), .long x.toInt64, .int (0 : Int32)]) (rest := []) ⟨hx, hb, hml, hown, hts⟩ (ccs l hlt D cy ad (B := B) (V := V) (V' := V) hB x.toInt64 (0 : Int32) (r := (-9999002 : Int32)) ((fa_si V x.toInt64).1) ((fa_si V x.toInt64).2) H.size) (vx_cwSW 3 hts gL_refuses_L_trySimulate rfl rfl rfl (by decide +kernel) ⟨Nat.le_of_ble_eq_true rfl, Nat.le_of_ble_eq_true rfl⟩) ⟨blU, preU hP hD (pmI _) hK hE hS hA⟩ rfl rfl hl.1 rfl (lv_room (Nat.le_of_ble_eq_true rfl)) dL_refuses_562 ⟨Nat.le_of_ble_eq_true rfl, Nat.le_of_ble_eq_true rfl⟩) hP hD (pmI _) hS hA (fun H locs hP hD hS => ?_)
    have hP : va_P D vwCl (wB cy ad V) H := vP_perm hP (pmI _).symm
    have hD : va_D A (wB cy ad V) := vD_perm hD (pmI _).symm
    refine lv_ldc (v := (-9999002)) hx hb hown (hts _ (List.mem_of_getElem? (i := 1) rfl)) dL_refuses_565 ?_
    refine lv_icmp_ne (tgt := 574) hx hb dL_refuses_567 (by decide) (fun c_35 => absurd (by decide) c_35) (fun c_35 => ?_)
    refine lv_iconst (v := 1) hx hb dL_refuses_570 (by decide) ?_
    refine lv_goto (tgt := 575) hx hb dL_refuses_571 (by decide) ?_
    refine lv_istore (lv' := [(4, .int (1 : Int32)), (3, .int (nI m0)), (2, .int nt), (0, .ref (ad 0 0 0)), (1, .int x)]) hx hb dL_refuses_575 hl (by decide) rfl (fun ls hl => ?_)
    exact sg5 H locs hP hD hS ls (lv_sub hl [0, 1, 2, 3, 4] rfl)
  have sg3 : ∀ (H : Heap) (locs : List Loc), va_P D vwCl (wB cy ad V) H → va_D A (wB cy ad V) → va_S A s.heap H locs → ∀ ls : Array Slot, lv_has ls 5 [(4, .int (1 : Int32)), (3, .int (nI m0)), (2, .int nt), (0, .ref (ad 0 0 0)), (1, .int x)] → W pp l e rL_refuses s m ([.ref (ad 0 0 0), .int x] : List Value).toArray below meth c H locs 66 396 Q (F0 m 381 ls []) := by
    intro H locs hP hD hS ls hl
    refine lv_iload hx hb dL_refuses_381 (lv_at hl 0 rfl) ?_
    refine lv_if_eq (tgt := 502) hx hb dL_refuses_383 (by decide) (fun c_23 => absurd c_23 (by decide)) (fun c_23 => ?_)
    refine lv_aload_n hx hb dL_refuses_386 rfl (lv_at hl 3 rfl) ?_
    refine lv_bipush (v := 10) hx hb dL_refuses_387 (by decide) ?_
    refine lv_iload_n hx hb dL_refuses_389 rfl (lv_at hl 4 rfl) ?_
    refine lv_iconst (v := 2) hx hb dL_refuses_390 (by decide) ?_
    refine lv_irem hx hb dL_refuses_391 (by decide) ?_
    refine lv_iload_n hx hb dL_refuses_392 rfl (lv_at hl 2 rfl) ?_
    refine lv_bipush (v := 99) hx hb dL_refuses_393 (by decide) ?_
    refine cl_i (va_runS (As := [.ref (ad 0 0 0), .int (10 : Int32), .int (x - x / (2 : Int32) * (2 : Int32)), .int nt, .int (99 : Int32)]) (rest := []) ⟨hx, hb, hml, hown, hts⟩ (cca l hlt D cy ad (B := B) (V := V) (V' := V) hB (what := (10 : Int32)) (a := (x - x / (2 : Int32) * (2 : Int32))) (b := nt) (c := (99 : Int32)) (r := (-9999001 : Int32)) ((fa_gr V 99 d2 (by rw [ent2]; exact chkN_bad z3 z1 z2 (Nat.le_refl _) h64)).1) ((fa_gr V 99 d2 (by rw [ent2]; exact chkN_bad z3 z1 z2 (Nat.le_refl _) h64)).2) (n15 (by decide)) H.size) (va_cwS 5 hts gL_refuses_L_call rfl rfl rfl (by decide +kernel) ⟨Nat.le_of_ble_eq_true rfl, Nat.le_of_ble_eq_true rfl⟩) ⟨blU, preU hP hD (pmI _) hK hE hS hA⟩ rfl rfl hl.1 rfl (lv_room (Nat.le_of_ble_eq_true rfl)) dL_refuses_395 ⟨Nat.le_of_ble_eq_true rfl, Nat.le_of_ble_eq_true rfl⟩) hP hD (pmI _) hS hA (fun H locs hP hD hS => ?_)
    have hP : va_P D vwCl (wB cy ad V) H := vP_perm hP (pmI _).symm
    have hD : va_D A (wB cy ad V) := vD_perm hD (pmI _).symm
    refine lv_ldc (v := (-9999001)) hx hb hown (hts _ (List.mem_of_getElem? (i := 2) rfl)) dL_refuses_398 ?_
    refine lv_icmp_ne (tgt := 502) hx hb dL_refuses_400 (by decide) (fun c_24 => absurd (by decide) c_24) (fun c_24 => ?_)
    refine lv_aload_n hx hb dL_refuses_403 rfl (lv_at hl 3 rfl) ?_
    refine lv_bipush (v := 10) hx hb dL_refuses_404 (by decide) ?_
    refine lv_iload_n hx hb dL_refuses_406 rfl (lv_at hl 4 rfl) ?_
    refine lv_iconst (v := 2) hx hb dL_refuses_407 (by decide) ?_
    refine lv_irem hx hb dL_refuses_408 (by decide) ?_
    refine lv_iload_n hx hb dL_refuses_409 rfl (lv_at hl 4 rfl) ?_
    refine lv_iload_n hx hb dL_refuses_410 rfl (lv_at hl 2 rfl) ?_
    refine lv_irem hx hb dL_refuses_411 ntne ?_
    refine lv_iconst (v := 2) hx hb dL_refuses_412 (by decide) ?_
    refine lv_iload_n hx hb dL_refuses_413 rfl (lv_at hl 1 rfl) ?_
    refine lv_imul hx hb dL_refuses_414 ?_
    refine cl_i (va_runS (As := [.ref (ad 0 0 0), .int (10 : Int32), .int (x - x / (2 : Int32) * (2 : Int32)), .int (x - x / nt * nt), .int ((2 : Int32) * (nI m0))]) (rest := []) ⟨hx, hb, hml, hown, hts⟩ (cca l hlt D cy ad (B := B) (V := V) (V' := V) hB (what := (10 : Int32)) (a := (x - x / (2 : Int32) * (2 : Int32))) (b := (x - x / nt * nt)) (c := ((2 : Int32) * (nI m0))) (r := (-9999002 : Int32)) ((fa_grS V d2 (by rw [eN]; exact chkN_ok z3 z1 z2 (Nat.mod_lt _ (Nat.two_pow_pos z))) (st_2m m3)).1) ((fa_grS V d2 (by rw [eN]; exact chkN_ok z3 z1 z2 (Nat.mod_lt _ (Nat.two_pow_pos z))) (st_2m m3)).2) (n15 (by decide)) H.size) (va_cwS 5 hts gL_refuses_L_call rfl rfl rfl (by decide +kernel) ⟨Nat.le_of_ble_eq_true rfl, Nat.le_of_ble_eq_true rfl⟩) ⟨blU, preU hP hD (pmI _) hK hE hS hA⟩ rfl rfl hl.1 rfl (lv_room (Nat.le_of_ble_eq_true rfl)) dL_refuses_415 ⟨Nat.le_of_ble_eq_true rfl, Nat.le_of_ble_eq_true rfl⟩) hP hD (pmI _) hS hA (fun H locs hP hD hS => ?_)
    have hP : va_P D vwCl (wB cy ad V) H := vP_perm hP (pmI _).symm
    have hD : va_D A (wB cy ad V) := vD_perm hD (pmI _).symm
    refine lv_ldc (v := (-9999002)) hx hb hown (hts _ (List.mem_of_getElem? (i := 1) rfl)) dL_refuses_418 ?_
    refine lv_icmp_ne (tgt := 502) hx hb dL_refuses_420 (by decide) (fun c_25 => absurd (by decide) c_25) (fun c_25 => ?_)
    refine lv_aload_n hx hb dL_refuses_423 rfl (lv_at hl 3 rfl) ?_
    refine lv_bipush (v := 26) hx hb dL_refuses_424 (by decide) ?_
    refine lv_iload_n hx hb dL_refuses_426 rfl (lv_at hl 4 rfl) ?_
    refine lv_bipush (v := 9) hx hb dL_refuses_427 (by decide) ?_
    refine lv_irem hx hb dL_refuses_429 (by decide) ?_
    refine lv_iadd hx hb dL_refuses_430 ?_
    refine lv_iconst (v := 1) hx hb dL_refuses_431 (by decide) ?_
    refine cl_i (vx_runSW (As := [.ref (ad 0 0 0), .int ((26 : Int32) + (x - x / (9 : Int32) * (9 : Int32))), .int (1 : Int32)]) (rest := []) ⟨hx, hb, hml, hown, hts⟩ (ccg l hlt D cy ad (B := B) (V := V) (V' := V) hB ((26 : Int32) + (x - x / (9 : Int32) * (9 : Int32))) (1 : Int32) (r := (-9999001 : Int32)) ((fa_go V (Or.inl (by rw [ti_add (c := (26 : Int32)) (n := 26) rfl e9 (by omega)]; omega))).1) ((fa_go V (Or.inl (by rw [ti_add (c := (26 : Int32)) (n := 26) rfl e9 (by omega)]; omega))).2) H.size) (vx_cwSW 3 hts gL_refuses_L_tryGo rfl rfl rfl (by decide +kernel) ⟨Nat.le_of_ble_eq_true rfl, Nat.le_of_ble_eq_true rfl⟩) ⟨blU, preU hP hD (pmI _) hK hE hS hA⟩ rfl rfl hl.1 rfl (lv_room (Nat.le_of_ble_eq_true rfl)) dL_refuses_432 ⟨Nat.le_of_ble_eq_true rfl, Nat.le_of_ble_eq_true rfl⟩) hP hD (pmI _) hS hA (fun H locs hP hD hS => ?_)
    have hP : va_P D vwCl (wB cy ad V) H := vP_perm hP (pmI _).symm
    have hD : va_D A (wB cy ad V) := vD_perm hD (pmI _).symm
    refine lv_ldc (v := (-9999001)) hx hb hown (hts _ (List.mem_of_getElem? (i := 2) rfl)) dL_refuses_435 ?_
    refine lv_icmp_ne (tgt := 502) hx hb dL_refuses_437 (by decide) (fun c_26 => absurd (by decide) c_26) (fun c_26 => ?_)
    refine lv_aload_n hx hb dL_refuses_440 rfl (lv_at hl 3 rfl) ?_
    refine lv_bipush (v := 13) hx hb dL_refuses_441 (by decide) ?_
    refine lv_iconst (v := 2) hx hb dL_refuses_443 (by decide) ?_
    refine lv_iconst (v := 0) hx hb dL_refuses_444 (by decide) ?_
    refine lv_iconst (v := 0) hx hb dL_refuses_445 (by decide) ?_
    refine cl_i (va_runS (As := [.ref (ad 0 0 0), .int (13 : Int32), .int (2 : Int32), .int (0 : Int32), .int (0 : Int32)]) (rest := []) ⟨hx, hb, hml, hown, hts⟩ (cca l hlt D cy ad (B := B) (V := V) (V' := V) hB (what := (13 : Int32)) (a := (2 : Int32)) (b := (0 : Int32)) (c := (0 : Int32)) (r := (-9999001 : Int32)) ((fa_mi V 0 0 (Or.inl (by decide))).1) ((fa_mi V 0 0 (Or.inl (by decide))).2) (n15 (by decide)) H.size) (va_cwS 5 hts gL_refuses_L_call rfl rfl rfl (by decide +kernel) ⟨Nat.le_of_ble_eq_true rfl, Nat.le_of_ble_eq_true rfl⟩) ⟨blU, preU hP hD (pmI _) hK hE hS hA⟩ rfl rfl hl.1 rfl (lv_room (Nat.le_of_ble_eq_true rfl)) dL_refuses_446 ⟨Nat.le_of_ble_eq_true rfl, Nat.le_of_ble_eq_true rfl⟩) hP hD (pmI _) hS hA (fun H locs hP hD hS => ?_)
    have hP : va_P D vwCl (wB cy ad V) H := vP_perm hP (pmI _).symm
    have hD : va_D A (wB cy ad V) := vD_perm hD (pmI _).symm
    refine lv_ldc (v := (-9999001)) hx hb hown (hts _ (List.mem_of_getElem? (i := 2) rfl)) dL_refuses_449 ?_
    refine lv_icmp_ne (tgt := 502) hx hb dL_refuses_451 (by decide) (fun c_27 => absurd (by decide) c_27) (fun c_27 => ?_)
    refine lv_aload_n hx hb dL_refuses_454 rfl (lv_at hl 3 rfl) ?_
    refine lv_bipush (v := 14) hx hb dL_refuses_455 (by decide) ?_
    refine lv_iconst (v := -1) hx hb dL_refuses_457 (by decide) ?_
    refine lv_iconst (v := 0) hx hb dL_refuses_458 (by decide) ?_
    refine lv_iconst (v := 0) hx hb dL_refuses_459 (by decide) ?_
    refine cl_i (va_runS (As := [.ref (ad 0 0 0), .int (14 : Int32), .int (-1 : Int32), .int (0 : Int32), .int (0 : Int32)]) (rest := []) ⟨hx, hb, hml, hown, hts⟩ (cca l hlt D cy ad (B := B) (V := V) (V' := V) hB (what := (14 : Int32)) (a := (-1 : Int32)) (b := (0 : Int32)) (c := (0 : Int32)) (r := (-9999001 : Int32)) ((fa_le V 0 0 (Or.inr (by decide))).1) ((fa_le V 0 0 (Or.inr (by decide))).2) (n15 (by decide)) H.size) (va_cwS 5 hts gL_refuses_L_call rfl rfl rfl (by decide +kernel) ⟨Nat.le_of_ble_eq_true rfl, Nat.le_of_ble_eq_true rfl⟩) ⟨blU, preU hP hD (pmI _) hK hE hS hA⟩ rfl rfl hl.1 rfl (lv_room (Nat.le_of_ble_eq_true rfl)) dL_refuses_460 ⟨Nat.le_of_ble_eq_true rfl, Nat.le_of_ble_eq_true rfl⟩) hP hD (pmI _) hS hA (fun H locs hP hD hS => ?_)
    have hP : va_P D vwCl (wB cy ad V) H := vP_perm hP (pmI _).symm
    have hD : va_D A (wB cy ad V) := vD_perm hD (pmI _).symm
    refine lv_ldc (v := (-9999001)) hx hb hown (hts _ (List.mem_of_getElem? (i := 2) rfl)) dL_refuses_463 ?_
    refine lv_icmp_ne (tgt := 502) hx hb dL_refuses_465 (by decide) (fun c_28 => absurd (by decide) c_28) (fun c_28 => ?_)
    refine lv_aload_n hx hb dL_refuses_468 rfl (lv_at hl 3 rfl) ?_
    refine lv_bipush (v := 15) hx hb dL_refuses_469 (by decide) ?_
    refine lv_iconst (v := 0) hx hb dL_refuses_471 (by decide) ?_
    refine lv_bipush (v := 26) hx hb dL_refuses_472 (by decide) ?_
    refine lv_iconst (v := 0) hx hb dL_refuses_474 (by decide) ?_
    refine cl_i (va_runS (As := [.ref (ad 0 0 0), .int (15 : Int32), .int (0 : Int32), .int (26 : Int32), .int (0 : Int32)]) (rest := []) ⟨hx, hb, hml, hown, hts⟩ (cca l hlt D cy ad (B := B) (V := V) (V' := V) hB (what := (15 : Int32)) (a := (0 : Int32)) (b := (26 : Int32)) (c := (0 : Int32)) (r := (-9999001 : Int32)) ((fa_sg V 0 (Or.inl rfl) (Or.inl (by decide))).1) ((fa_sg V 0 (Or.inl rfl) (Or.inl (by decide))).2) (fun _ => by rw [chkP_bad (Or.inl (by decide))]; decide) H.size) (va_cwS 5 hts gL_refuses_L_call rfl rfl rfl (by decide +kernel) ⟨Nat.le_of_ble_eq_true rfl, Nat.le_of_ble_eq_true rfl⟩) ⟨blU, preU hP hD (pmI _) hK hE hS hA⟩ rfl rfl hl.1 rfl (lv_room (Nat.le_of_ble_eq_true rfl)) dL_refuses_475 ⟨Nat.le_of_ble_eq_true rfl, Nat.le_of_ble_eq_true rfl⟩) hP hD (pmI _) hS hA (fun H locs hP hD hS => ?_)
    have hP : va_P D vwCl (wB cy ad V) H := vP_perm hP (pmI _).symm
    have hD : va_D A (wB cy ad V) := vD_perm hD (pmI _).symm
    refine lv_ldc (v := (-9999001)) hx hb hown (hts _ (List.mem_of_getElem? (i := 2) rfl)) dL_refuses_478 ?_
    refine lv_icmp_ne (tgt := 502) hx hb dL_refuses_480 (by decide) (fun c_29 => absurd (by decide) c_29) (fun c_29 => ?_)
    refine lv_aload_n hx hb dL_refuses_483 rfl (lv_at hl 3 rfl) ?_
    refine lv_bipush (v := 16) hx hb dL_refuses_484 (by decide) ?_
    refine lv_bipush (v := 26) hx hb dL_refuses_486 (by decide) ?_
    refine lv_iconst (v := 0) hx hb dL_refuses_488 (by decide) ?_
    refine lv_iconst (v := 0) hx hb dL_refuses_489 (by decide) ?_
    refine cl_i (va_runS (As := [.ref (ad 0 0 0), .int (16 : Int32), .int (26 : Int32), .int (0 : Int32), .int (0 : Int32)]) (rest := []) ⟨hx, hb, hml, hown, hts⟩ (cca l hlt D cy ad (B := B) (V := V) (V' := V) hB (what := (16 : Int32)) (a := (26 : Int32)) (b := (0 : Int32)) (c := (0 : Int32)) (r := (-9999001 : Int32)) ((fa_ho V 0 0 (Or.inl (by decide))).1) ((fa_ho V 0 0 (Or.inl (by decide))).2) (n15 (by decide)) H.size) (va_cwS 5 hts gL_refuses_L_call rfl rfl rfl (by decide +kernel) ⟨Nat.le_of_ble_eq_true rfl, Nat.le_of_ble_eq_true rfl⟩) ⟨blU, preU hP hD (pmI _) hK hE hS hA⟩ rfl rfl hl.1 rfl (lv_room (Nat.le_of_ble_eq_true rfl)) dL_refuses_490 ⟨Nat.le_of_ble_eq_true rfl, Nat.le_of_ble_eq_true rfl⟩) hP hD (pmI _) hS hA (fun H locs hP hD hS => ?_)
    have hP : va_P D vwCl (wB cy ad V) H := vP_perm hP (pmI _).symm
    have hD : va_D A (wB cy ad V) := vD_perm hD (pmI _).symm
    refine lv_ldc (v := (-9999001)) hx hb hown (hts _ (List.mem_of_getElem? (i := 2) rfl)) dL_refuses_493 ?_
    refine lv_icmp_ne (tgt := 502) hx hb dL_refuses_495 (by decide) (fun c_30 => absurd (by decide) c_30) (fun c_30 => ?_)
    refine lv_iconst (v := 1) hx hb dL_refuses_498 (by decide) ?_
    refine lv_goto (tgt := 503) hx hb dL_refuses_499 (by decide) ?_
    refine lv_istore (lv' := [(4, .int (1 : Int32)), (3, .int (nI m0)), (2, .int nt), (0, .ref (ad 0 0 0)), (1, .int x)]) hx hb dL_refuses_503 hl (by decide) rfl (fun ls hl => ?_)
    exact sg4 H locs hP hD hS ls (lv_sub hl [0, 1, 2, 3, 4] rfl)
  have sg2 : ∀ (H : Heap) (locs : List Loc), va_P D vwCl (wB cy ad V) H → va_D A (wB cy ad V) → va_S A s.heap H locs → ∀ ls : Array Slot, lv_has ls 5 [(4, .int (1 : Int32)), (3, .int (nI m0)), (2, .int nt), (0, .ref (ad 0 0 0)), (1, .int x)] → W pp l e rL_refuses s m ([.ref (ad 0 0 0), .int x] : List Value).toArray below meth c H locs 42 252 Q (F0 m 235 ls []) := by
    intro H locs hP hD hS ls hl
    refine lv_iload hx hb dL_refuses_235 (lv_at hl 0 rfl) ?_
    refine lv_if_eq (tgt := 378) hx hb dL_refuses_237 (by decide) (fun c_14 => absurd c_14 (by decide)) (fun c_14 => ?_)
    refine lv_aload_n hx hb dL_refuses_240 rfl (lv_at hl 3 rfl) ?_
    refine lv_bipush (v := 8) hx hb dL_refuses_241 (by decide) ?_
    refine lv_iconst (v := 2) hx hb dL_refuses_243 (by decide) ?_
    refine lv_bipush (v := 9) hx hb dL_refuses_244 (by decide) ?_
    refine lv_bipush (v := 9) hx hb dL_refuses_246 (by decide) ?_
    refine cl_i (va_runS (As := [.ref (ad 0 0 0), .int (8 : Int32), .int (2 : Int32), .int (9 : Int32), .int (9 : Int32)]) (rest := []) ⟨hx, hb, hml, hown, hts⟩ (cca l hlt D cy ad (B := B) (V := V) (V' := V) hB (what := (8 : Int32)) (a := (2 : Int32)) (b := (9 : Int32)) (c := (9 : Int32)) (r := (-9999001 : Int32)) ((fa_tu V 9 9 (Or.inl (by decide))).1) ((fa_tu V 9 9 (Or.inl (by decide))).2) (n15 (by decide)) H.size) (va_cwS 5 hts gL_refuses_L_call rfl rfl rfl (by decide +kernel) ⟨Nat.le_of_ble_eq_true rfl, Nat.le_of_ble_eq_true rfl⟩) ⟨blU, preU hP hD (pmI _) hK hE hS hA⟩ rfl rfl hl.1 rfl (lv_room (Nat.le_of_ble_eq_true rfl)) dL_refuses_248 ⟨Nat.le_of_ble_eq_true rfl, Nat.le_of_ble_eq_true rfl⟩) hP hD (pmI _) hS hA (fun H locs hP hD hS => ?_)
    have hP : va_P D vwCl (wB cy ad V) H := vP_perm hP (pmI _).symm
    have hD : va_D A (wB cy ad V) := vD_perm hD (pmI _).symm
    refine lv_ldc (v := (-9999001)) hx hb hown (hts _ (List.mem_of_getElem? (i := 2) rfl)) dL_refuses_251 ?_
    refine lv_icmp_ne (tgt := 378) hx hb dL_refuses_253 (by decide) (fun c_15 => absurd (by decide) c_15) (fun c_15 => ?_)
    refine lv_aload_n hx hb dL_refuses_256 rfl (lv_at hl 3 rfl) ?_
    refine lv_bipush (v := 8) hx hb dL_refuses_257 (by decide) ?_
    refine lv_iload_n hx hb dL_refuses_259 rfl (lv_at hl 4 rfl) ?_
    refine lv_iconst (v := 2) hx hb dL_refuses_260 (by decide) ?_
    refine lv_irem hx hb dL_refuses_261 (by decide) ?_
    refine lv_iconst (v := 0) hx hb dL_refuses_262 (by decide) ?_
    refine lv_iconst (v := 5) hx hb dL_refuses_263 (by decide) ?_
    refine lv_iload_n hx hb dL_refuses_264 rfl (lv_at hl 4 rfl) ?_
    refine lv_bipush (v := 9) hx hb dL_refuses_265 (by decide) ?_
    refine lv_irem hx hb dL_refuses_267 (by decide) ?_
    refine lv_iadd hx hb dL_refuses_268 ?_
    refine cl_i (va_runS (As := [.ref (ad 0 0 0), .int (8 : Int32), .int (x - x / (2 : Int32) * (2 : Int32)), .int (0 : Int32), .int ((5 : Int32) + (x - x / (9 : Int32) * (9 : Int32)))]) (rest := []) ⟨hx, hb, hml, hown, hts⟩ (cca l hlt D cy ad (B := B) (V := V) (V' := V) hB (what := (8 : Int32)) (a := (x - x / (2 : Int32) * (2 : Int32))) (b := (0 : Int32)) (c := ((5 : Int32) + (x - x / (9 : Int32) * (9 : Int32)))) (r := (-9999002 : Int32)) ((fa_tuS V d2 (ds_0 (by rw [ti_add (c := (5 : Int32)) (n := 5) rfl e9 (by omega)]; omega))).1) ((fa_tuS V d2 (ds_0 (by rw [ti_add (c := (5 : Int32)) (n := 5) rfl e9 (by omega)]; omega))).2) (n15 (by decide)) H.size) (va_cwS 5 hts gL_refuses_L_call rfl rfl rfl (by decide +kernel) ⟨Nat.le_of_ble_eq_true rfl, Nat.le_of_ble_eq_true rfl⟩) ⟨blU, preU hP hD (pmI _) hK hE hS hA⟩ rfl rfl hl.1 rfl (lv_room (Nat.le_of_ble_eq_true rfl)) dL_refuses_269 ⟨Nat.le_of_ble_eq_true rfl, Nat.le_of_ble_eq_true rfl⟩) hP hD (pmI _) hS hA (fun H locs hP hD hS => ?_)
    have hP : va_P D vwCl (wB cy ad V) H := vP_perm hP (pmI _).symm
    have hD : va_D A (wB cy ad V) := vD_perm hD (pmI _).symm
    refine lv_ldc (v := (-9999002)) hx hb hown (hts _ (List.mem_of_getElem? (i := 1) rfl)) dL_refuses_272 ?_
    refine lv_icmp_ne (tgt := 378) hx hb dL_refuses_274 (by decide) (fun c_16 => absurd (by decide) c_16) (fun c_16 => ?_)
    refine lv_aload_n hx hb dL_refuses_277 rfl (lv_at hl 3 rfl) ?_
    refine lv_bipush (v := 8) hx hb dL_refuses_278 (by decide) ?_
    refine lv_iload_n hx hb dL_refuses_280 rfl (lv_at hl 4 rfl) ?_
    refine lv_iconst (v := 2) hx hb dL_refuses_281 (by decide) ?_
    refine lv_irem hx hb dL_refuses_282 (by decide) ?_
    refine lv_iconst (v := 1) hx hb dL_refuses_283 (by decide) ?_
    refine lv_bipush (v := 7) hx hb dL_refuses_284 (by decide) ?_
    refine cl_i (va_runS (As := [.ref (ad 0 0 0), .int (8 : Int32), .int (x - x / (2 : Int32) * (2 : Int32)), .int (1 : Int32), .int (7 : Int32)]) (rest := []) ⟨hx, hb, hml, hown, hts⟩ (cca l hlt D cy ad (B := B) (V := V) (V' := V) hB (what := (8 : Int32)) (a := (x - x / (2 : Int32) * (2 : Int32))) (b := (1 : Int32)) (c := (7 : Int32)) (r := (-9999002 : Int32)) ((fa_tuS V d2 (by decide +kernel)).1) ((fa_tuS V d2 (by decide +kernel)).2) (n15 (by decide)) H.size) (va_cwS 5 hts gL_refuses_L_call rfl rfl rfl (by decide +kernel) ⟨Nat.le_of_ble_eq_true rfl, Nat.le_of_ble_eq_true rfl⟩) ⟨blU, preU hP hD (pmI _) hK hE hS hA⟩ rfl rfl hl.1 rfl (lv_room (Nat.le_of_ble_eq_true rfl)) dL_refuses_286 ⟨Nat.le_of_ble_eq_true rfl, Nat.le_of_ble_eq_true rfl⟩) hP hD (pmI _) hS hA (fun H locs hP hD hS => ?_)
    have hP : va_P D vwCl (wB cy ad V) H := vP_perm hP (pmI _).symm
    have hD : va_D A (wB cy ad V) := vD_perm hD (pmI _).symm
    refine lv_ldc (v := (-9999002)) hx hb hown (hts _ (List.mem_of_getElem? (i := 1) rfl)) dL_refuses_289 ?_
    refine lv_icmp_ne (tgt := 378) hx hb dL_refuses_291 (by decide) (fun c_17 => absurd (by decide) c_17) (fun c_17 => ?_)
    refine lv_aload_n hx hb dL_refuses_294 rfl (lv_at hl 3 rfl) ?_
    refine lv_bipush (v := 8) hx hb dL_refuses_295 (by decide) ?_
    refine lv_iload_n hx hb dL_refuses_297 rfl (lv_at hl 4 rfl) ?_
    refine lv_iconst (v := 2) hx hb dL_refuses_298 (by decide) ?_
    refine lv_irem hx hb dL_refuses_299 (by decide) ?_
    refine lv_iconst (v := 2) hx hb dL_refuses_300 (by decide) ?_
    refine lv_iconst (v := -1) hx hb dL_refuses_301 (by decide) ?_
    refine cl_i (va_runS (As := [.ref (ad 0 0 0), .int (8 : Int32), .int (x - x / (2 : Int32) * (2 : Int32)), .int (2 : Int32), .int (-1 : Int32)]) (rest := []) ⟨hx, hb, hml, hown, hts⟩ (cca l hlt D cy ad (B := B) (V := V) (V' := V) hB (what := (8 : Int32)) (a := (x - x / (2 : Int32) * (2 : Int32))) (b := (2 : Int32)) (c := (-1 : Int32)) (r := (-9999002 : Int32)) ((fa_tuS V d2 (by decide +kernel)).1) ((fa_tuS V d2 (by decide +kernel)).2) (n15 (by decide)) H.size) (va_cwS 5 hts gL_refuses_L_call rfl rfl rfl (by decide +kernel) ⟨Nat.le_of_ble_eq_true rfl, Nat.le_of_ble_eq_true rfl⟩) ⟨blU, preU hP hD (pmI _) hK hE hS hA⟩ rfl rfl hl.1 rfl (lv_room (Nat.le_of_ble_eq_true rfl)) dL_refuses_302 ⟨Nat.le_of_ble_eq_true rfl, Nat.le_of_ble_eq_true rfl⟩) hP hD (pmI _) hS hA (fun H locs hP hD hS => ?_)
    have hP : va_P D vwCl (wB cy ad V) H := vP_perm hP (pmI _).symm
    have hD : va_D A (wB cy ad V) := vD_perm hD (pmI _).symm
    refine lv_ldc (v := (-9999002)) hx hb hown (hts _ (List.mem_of_getElem? (i := 1) rfl)) dL_refuses_305 ?_
    refine lv_icmp_ne (tgt := 378) hx hb dL_refuses_307 (by decide) (fun c_18 => absurd (by decide) c_18) (fun c_18 => ?_)
    refine lv_aload_n hx hb dL_refuses_310 rfl (lv_at hl 3 rfl) ?_
    refine lv_bipush (v := 8) hx hb dL_refuses_311 (by decide) ?_
    refine lv_iload_n hx hb dL_refuses_313 rfl (lv_at hl 4 rfl) ?_
    refine lv_iconst (v := 2) hx hb dL_refuses_314 (by decide) ?_
    refine lv_irem hx hb dL_refuses_315 (by decide) ?_
    refine lv_iconst (v := 3) hx hb dL_refuses_316 (by decide) ?_
    refine lv_iconst (v := 0) hx hb dL_refuses_317 (by decide) ?_
    refine cl_i (va_runS (As := [.ref (ad 0 0 0), .int (8 : Int32), .int (x - x / (2 : Int32) * (2 : Int32)), .int (3 : Int32), .int (0 : Int32)]) (rest := []) ⟨hx, hb, hml, hown, hts⟩ (cca l hlt D cy ad (B := B) (V := V) (V' := V) hB (what := (8 : Int32)) (a := (x - x / (2 : Int32) * (2 : Int32))) (b := (3 : Int32)) (c := (0 : Int32)) (r := (-9999002 : Int32)) ((fa_tuS V d2 (by decide +kernel)).1) ((fa_tuS V d2 (by decide +kernel)).2) (n15 (by decide)) H.size) (va_cwS 5 hts gL_refuses_L_call rfl rfl rfl (by decide +kernel) ⟨Nat.le_of_ble_eq_true rfl, Nat.le_of_ble_eq_true rfl⟩) ⟨blU, preU hP hD (pmI _) hK hE hS hA⟩ rfl rfl hl.1 rfl (lv_room (Nat.le_of_ble_eq_true rfl)) dL_refuses_318 ⟨Nat.le_of_ble_eq_true rfl, Nat.le_of_ble_eq_true rfl⟩) hP hD (pmI _) hS hA (fun H locs hP hD hS => ?_)
    have hP : va_P D vwCl (wB cy ad V) H := vP_perm hP (pmI _).symm
    have hD : va_D A (wB cy ad V) := vD_perm hD (pmI _).symm
    refine lv_ldc (v := (-9999002)) hx hb hown (hts _ (List.mem_of_getElem? (i := 1) rfl)) dL_refuses_321 ?_
    refine lv_icmp_ne (tgt := 378) hx hb dL_refuses_323 (by decide) (fun c_19 => absurd (by decide) c_19) (fun c_19 => ?_)
    refine lv_aload_n hx hb dL_refuses_326 rfl (lv_at hl 3 rfl) ?_
    refine lv_bipush (v := 9) hx hb dL_refuses_327 (by decide) ?_
    refine lv_iconst (v := 0) hx hb dL_refuses_329 (by decide) ?_
    refine lv_iconst (v := 1) hx hb dL_refuses_330 (by decide) ?_
    refine lv_iconst (v := 0) hx hb dL_refuses_331 (by decide) ?_
    refine cl_i (va_runS (As := [.ref (ad 0 0 0), .int (9 : Int32), .int (0 : Int32), .int (1 : Int32), .int (0 : Int32)]) (rest := []) ⟨hx, hb, hml, hown, hts⟩ (cca l hlt D cy ad (B := B) (V := V) (V' := V) hB (what := (9 : Int32)) (a := (0 : Int32)) (b := (1 : Int32)) (c := (0 : Int32)) (r := (-9999002 : Int32)) ((fa_se V 0 (by decide +kernel)).1) ((fa_se V 0 (by decide +kernel)).2) (n15 (by decide)) H.size) (va_cwS 5 hts gL_refuses_L_call rfl rfl rfl (by decide +kernel) ⟨Nat.le_of_ble_eq_true rfl, Nat.le_of_ble_eq_true rfl⟩) ⟨blU, preU hP hD (pmI _) hK hE hS hA⟩ rfl rfl hl.1 rfl (lv_room (Nat.le_of_ble_eq_true rfl)) dL_refuses_332 ⟨Nat.le_of_ble_eq_true rfl, Nat.le_of_ble_eq_true rfl⟩) hP hD (pmI _) hS hA (fun H locs hP hD hS => ?_)
    have hP : va_P D vwCl (wB cy ad V) H := vP_perm hP (pmI _).symm
    have hD : va_D A (wB cy ad V) := vD_perm hD (pmI _).symm
    refine lv_ldc (v := (-9999002)) hx hb hown (hts _ (List.mem_of_getElem? (i := 1) rfl)) dL_refuses_335 ?_
    refine lv_icmp_ne (tgt := 378) hx hb dL_refuses_337 (by decide) (fun c_20 => absurd (by decide) c_20) (fun c_20 => ?_)
    refine lv_aload_n hx hb dL_refuses_340 rfl (lv_at hl 3 rfl) ?_
    refine lv_bipush (v := 9) hx hb dL_refuses_341 (by decide) ?_
    refine lv_iconst (v := 1) hx hb dL_refuses_343 (by decide) ?_
    refine lv_iconst (v := 5) hx hb dL_refuses_344 (by decide) ?_
    refine lv_iconst (v := 0) hx hb dL_refuses_345 (by decide) ?_
    refine cl_i (va_runS (As := [.ref (ad 0 0 0), .int (9 : Int32), .int (1 : Int32), .int (5 : Int32), .int (0 : Int32)]) (rest := []) ⟨hx, hb, hml, hown, hts⟩ (cca l hlt D cy ad (B := B) (V := V) (V' := V) hB (what := (9 : Int32)) (a := (1 : Int32)) (b := (5 : Int32)) (c := (0 : Int32)) (r := (-9999002 : Int32)) ((fa_se V 0 (by decide +kernel)).1) ((fa_se V 0 (by decide +kernel)).2) (n15 (by decide)) H.size) (va_cwS 5 hts gL_refuses_L_call rfl rfl rfl (by decide +kernel) ⟨Nat.le_of_ble_eq_true rfl, Nat.le_of_ble_eq_true rfl⟩) ⟨blU, preU hP hD (pmI _) hK hE hS hA⟩ rfl rfl hl.1 rfl (lv_room (Nat.le_of_ble_eq_true rfl)) dL_refuses_346 ⟨Nat.le_of_ble_eq_true rfl, Nat.le_of_ble_eq_true rfl⟩) hP hD (pmI _) hS hA (fun H locs hP hD hS => ?_)
    have hP : va_P D vwCl (wB cy ad V) H := vP_perm hP (pmI _).symm
    have hD : va_D A (wB cy ad V) := vD_perm hD (pmI _).symm
    refine lv_ldc (v := (-9999002)) hx hb hown (hts _ (List.mem_of_getElem? (i := 1) rfl)) dL_refuses_349 ?_
    refine lv_icmp_ne (tgt := 378) hx hb dL_refuses_351 (by decide) (fun c_21 => absurd (by decide) c_21) (fun c_21 => ?_)
    refine lv_aload_n hx hb dL_refuses_354 rfl (lv_at hl 3 rfl) ?_
    refine lv_bipush (v := 9) hx hb dL_refuses_355 (by decide) ?_
    refine lv_iconst (v := 2) hx hb dL_refuses_357 (by decide) ?_
    refine lv_bipush (v := 10) hx hb dL_refuses_358 (by decide) ?_
    refine lv_iload_n hx hb dL_refuses_360 rfl (lv_at hl 4 rfl) ?_
    refine lv_bipush (v := 9) hx hb dL_refuses_361 (by decide) ?_
    refine lv_irem hx hb dL_refuses_363 (by decide) ?_
    refine lv_iadd hx hb dL_refuses_364 ?_
    refine lv_iconst (v := 0) hx hb dL_refuses_365 (by decide) ?_
    refine cl_i (va_runS (As := [.ref (ad 0 0 0), .int (9 : Int32), .int (2 : Int32), .int ((10 : Int32) + (x - x / (9 : Int32) * (9 : Int32))), .int (0 : Int32)]) (rest := []) ⟨hx, hb, hml, hown, hts⟩ (cca l hlt D cy ad (B := B) (V := V) (V' := V) hB (what := (9 : Int32)) (a := (2 : Int32)) (b := ((10 : Int32) + (x - x / (9 : Int32) * (9 : Int32)))) (c := (0 : Int32)) (r := (-9999002 : Int32)) ((fa_se V 0 (cs_2 (by rw [ti_add (c := (10 : Int32)) (n := 10) rfl e9 (by omega)]; omega))).1) ((fa_se V 0 (cs_2 (by rw [ti_add (c := (10 : Int32)) (n := 10) rfl e9 (by omega)]; omega))).2) (n15 (by decide)) H.size) (va_cwS 5 hts gL_refuses_L_call rfl rfl rfl (by decide +kernel) ⟨Nat.le_of_ble_eq_true rfl, Nat.le_of_ble_eq_true rfl⟩) ⟨blU, preU hP hD (pmI _) hK hE hS hA⟩ rfl rfl hl.1 rfl (lv_room (Nat.le_of_ble_eq_true rfl)) dL_refuses_366 ⟨Nat.le_of_ble_eq_true rfl, Nat.le_of_ble_eq_true rfl⟩) hP hD (pmI _) hS hA (fun H locs hP hD hS => ?_)
    have hP : va_P D vwCl (wB cy ad V) H := vP_perm hP (pmI _).symm
    have hD : va_D A (wB cy ad V) := vD_perm hD (pmI _).symm
    refine lv_ldc (v := (-9999002)) hx hb hown (hts _ (List.mem_of_getElem? (i := 1) rfl)) dL_refuses_369 ?_
    refine lv_icmp_ne (tgt := 378) hx hb dL_refuses_371 (by decide) (fun c_22 => absurd (by decide) c_22) (fun c_22 => ?_)
    refine lv_iconst (v := 1) hx hb dL_refuses_374 (by decide) ?_
    refine lv_goto (tgt := 379) hx hb dL_refuses_375 (by decide) ?_
    refine lv_istore (lv' := [(4, .int (1 : Int32)), (3, .int (nI m0)), (2, .int nt), (0, .ref (ad 0 0 0)), (1, .int x)]) hx hb dL_refuses_379 hl (by decide) rfl (fun ls hl => ?_)
    exact sg3 H locs hP hD hS ls (lv_sub hl [0, 1, 2, 3, 4] rfl)
  have sg1 : ∀ (H : Heap) (locs : List Loc), va_P D vwCl (wB cy ad V) H → va_D A (wB cy ad V) → va_S A s.heap H locs → ∀ ls : Array Slot, lv_has ls 5 [(4, .int (1 : Int32)), (3, .int (nI m0)), (2, .int nt), (0, .ref (ad 0 0 0)), (1, .int x)] → W pp l e rL_refuses s m ([.ref (ad 0 0 0), .int x] : List Value).toArray below meth c H locs 24 144 Q (F0 m 128 ls []) := by
    intro H locs hP hD hS ls hl
    refine lv_iload hx hb dL_refuses_128 (lv_at hl 0 rfl) ?_
    refine lv_if_eq (tgt := 232) hx hb dL_refuses_130 (by decide) (fun c_7 => absurd c_7 (by decide)) (fun c_7 => ?_)
    refine lv_aload_n hx hb dL_refuses_133 rfl (lv_at hl 3 rfl) ?_
    refine lv_iconst (v := 4) hx hb dL_refuses_134 (by decide) ?_
    refine lv_bipush (v := 26) hx hb dL_refuses_135 (by decide) ?_
    refine lv_iload_n hx hb dL_refuses_137 rfl (lv_at hl 4 rfl) ?_
    refine lv_bipush (v := 9) hx hb dL_refuses_138 (by decide) ?_
    refine lv_irem hx hb dL_refuses_140 (by decide) ?_
    refine lv_iadd hx hb dL_refuses_141 ?_
    refine lv_iconst (v := 0) hx hb dL_refuses_142 (by decide) ?_
    refine lv_iconst (v := 0) hx hb dL_refuses_143 (by decide) ?_
    refine cl_i (va_runS (As := [.ref (ad 0 0 0), .int (4 : Int32), .int ((26 : Int32) + (x - x / (9 : Int32) * (9 : Int32))), .int (0 : Int32), .int (0 : Int32)]) (rest := []) ⟨hx, hb, hml, hown, hts⟩ (cca l hlt D cy ad (B := B) (V := V) (V' := V) hB (what := (4 : Int32)) (a := ((26 : Int32) + (x - x / (9 : Int32) * (9 : Int32)))) (b := (0 : Int32)) (c := (0 : Int32)) (r := (-9999001 : Int32)) ((fa_pl V 0 0 (Or.inl (by rw [ti_add (c := (26 : Int32)) (n := 26) rfl e9 (by omega)]; omega))).1) ((fa_pl V 0 0 (Or.inl (by rw [ti_add (c := (26 : Int32)) (n := 26) rfl e9 (by omega)]; omega))).2) (n15 (by decide)) H.size) (va_cwS 5 hts gL_refuses_L_call rfl rfl rfl (by decide +kernel) ⟨Nat.le_of_ble_eq_true rfl, Nat.le_of_ble_eq_true rfl⟩) ⟨blU, preU hP hD (pmI _) hK hE hS hA⟩ rfl rfl hl.1 rfl (lv_room (Nat.le_of_ble_eq_true rfl)) dL_refuses_144 ⟨Nat.le_of_ble_eq_true rfl, Nat.le_of_ble_eq_true rfl⟩) hP hD (pmI _) hS hA (fun H locs hP hD hS => ?_)
    have hP : va_P D vwCl (wB cy ad V) H := vP_perm hP (pmI _).symm
    have hD : va_D A (wB cy ad V) := vD_perm hD (pmI _).symm
    refine lv_ldc (v := (-9999001)) hx hb hown (hts _ (List.mem_of_getElem? (i := 2) rfl)) dL_refuses_147 ?_
    refine lv_icmp_ne (tgt := 232) hx hb dL_refuses_149 (by decide) (fun c_8 => absurd (by decide) c_8) (fun c_8 => ?_)
    refine lv_aload_n hx hb dL_refuses_152 rfl (lv_at hl 3 rfl) ?_
    refine lv_iconst (v := 4) hx hb dL_refuses_153 (by decide) ?_
    refine lv_iload_n hx hb dL_refuses_154 rfl (lv_at hl 4 rfl) ?_
    refine lv_bipush (v := 26) hx hb dL_refuses_155 (by decide) ?_
    refine lv_irem hx hb dL_refuses_157 (by decide) ?_
    refine lv_iconst (v := 5) hx hb dL_refuses_158 (by decide) ?_
    refine lv_iconst (v := 0) hx hb dL_refuses_159 (by decide) ?_
    refine cl_i (va_runS (As := [.ref (ad 0 0 0), .int (4 : Int32), .int (x - x / (26 : Int32) * (26 : Int32)), .int (5 : Int32), .int (0 : Int32)]) (rest := []) ⟨hx, hb, hml, hown, hts⟩ (cca l hlt D cy ad (B := B) (V := V) (V' := V) hB (what := (4 : Int32)) (a := (x - x / (26 : Int32) * (26 : Int32))) (b := (5 : Int32)) (c := (0 : Int32)) (r := (-9999002 : Int32)) ((fa_pl5 V 0 (by rw [e26]; exact chkP_ok (Nat.mod_lt _ (by decide)))).1) ((fa_pl5 V 0 (by rw [e26]; exact chkP_ok (Nat.mod_lt _ (by decide)))).2) (n15 (by decide)) H.size) (va_cwS 5 hts gL_refuses_L_call rfl rfl rfl (by decide +kernel) ⟨Nat.le_of_ble_eq_true rfl, Nat.le_of_ble_eq_true rfl⟩) ⟨blU, preU hP hD (pmI _) hK hE hS hA⟩ rfl rfl hl.1 rfl (lv_room (Nat.le_of_ble_eq_true rfl)) dL_refuses_160 ⟨Nat.le_of_ble_eq_true rfl, Nat.le_of_ble_eq_true rfl⟩) hP hD (pmI _) hS hA (fun H locs hP hD hS => ?_)
    have hP : va_P D vwCl (wB cy ad V) H := vP_perm hP (pmI _).symm
    have hD : va_D A (wB cy ad V) := vD_perm hD (pmI _).symm
    refine lv_ldc (v := (-9999002)) hx hb hown (hts _ (List.mem_of_getElem? (i := 1) rfl)) dL_refuses_163 ?_
    refine lv_icmp_ne (tgt := 232) hx hb dL_refuses_165 (by decide) (fun c_9 => absurd (by decide) c_9) (fun c_9 => ?_)
    refine lv_aload_n hx hb dL_refuses_168 rfl (lv_at hl 3 rfl) ?_
    refine lv_iconst (v := 5) hx hb dL_refuses_169 (by decide) ?_
    refine lv_iconst (v := 2) hx hb dL_refuses_170 (by decide) ?_
    refine lv_iconst (v := 0) hx hb dL_refuses_171 (by decide) ?_
    refine lv_iconst (v := 0) hx hb dL_refuses_172 (by decide) ?_
    refine cl_i (va_runS (As := [.ref (ad 0 0 0), .int (5 : Int32), .int (2 : Int32), .int (0 : Int32), .int (0 : Int32)]) (rest := []) ⟨hx, hb, hml, hown, hts⟩ (cca l hlt D cy ad (B := B) (V := V) (V' := V) hB (what := (5 : Int32)) (a := (2 : Int32)) (b := (0 : Int32)) (c := (0 : Int32)) (r := (-9999001 : Int32)) ((fa_pa V 0 0 (Or.inl (by decide))).1) ((fa_pa V 0 0 (Or.inl (by decide))).2) (n15 (by decide)) H.size) (va_cwS 5 hts gL_refuses_L_call rfl rfl rfl (by decide +kernel) ⟨Nat.le_of_ble_eq_true rfl, Nat.le_of_ble_eq_true rfl⟩) ⟨blU, preU hP hD (pmI _) hK hE hS hA⟩ rfl rfl hl.1 rfl (lv_room (Nat.le_of_ble_eq_true rfl)) dL_refuses_173 ⟨Nat.le_of_ble_eq_true rfl, Nat.le_of_ble_eq_true rfl⟩) hP hD (pmI _) hS hA (fun H locs hP hD hS => ?_)
    have hP : va_P D vwCl (wB cy ad V) H := vP_perm hP (pmI _).symm
    have hD : va_D A (wB cy ad V) := vD_perm hD (pmI _).symm
    refine lv_ldc (v := (-9999001)) hx hb hown (hts _ (List.mem_of_getElem? (i := 2) rfl)) dL_refuses_176 ?_
    refine lv_icmp_ne (tgt := 232) hx hb dL_refuses_178 (by decide) (fun c_10 => absurd (by decide) c_10) (fun c_10 => ?_)
    refine lv_aload_n hx hb dL_refuses_181 rfl (lv_at hl 3 rfl) ?_
    refine lv_iconst (v := 5) hx hb dL_refuses_182 (by decide) ?_
    refine lv_iconst (v := 0) hx hb dL_refuses_183 (by decide) ?_
    refine lv_bipush (v := 26) hx hb dL_refuses_184 (by decide) ?_
    refine lv_iconst (v := 0) hx hb dL_refuses_186 (by decide) ?_
    refine cl_i (va_runS (As := [.ref (ad 0 0 0), .int (5 : Int32), .int (0 : Int32), .int (26 : Int32), .int (0 : Int32)]) (rest := []) ⟨hx, hb, hml, hown, hts⟩ (cca l hlt D cy ad (B := B) (V := V) (V' := V) hB (what := (5 : Int32)) (a := (0 : Int32)) (b := (26 : Int32)) (c := (0 : Int32)) (r := (-9999001 : Int32)) ((fa_paP V 0 (Or.inl rfl) (Or.inl (by decide))).1) ((fa_paP V 0 (Or.inl rfl) (Or.inl (by decide))).2) (n15 (by decide)) H.size) (va_cwS 5 hts gL_refuses_L_call rfl rfl rfl (by decide +kernel) ⟨Nat.le_of_ble_eq_true rfl, Nat.le_of_ble_eq_true rfl⟩) ⟨blU, preU hP hD (pmI _) hK hE hS hA⟩ rfl rfl hl.1 rfl (lv_room (Nat.le_of_ble_eq_true rfl)) dL_refuses_187 ⟨Nat.le_of_ble_eq_true rfl, Nat.le_of_ble_eq_true rfl⟩) hP hD (pmI _) hS hA (fun H locs hP hD hS => ?_)
    have hP : va_P D vwCl (wB cy ad V) H := vP_perm hP (pmI _).symm
    have hD : va_D A (wB cy ad V) := vD_perm hD (pmI _).symm
    refine lv_ldc (v := (-9999001)) hx hb hown (hts _ (List.mem_of_getElem? (i := 2) rfl)) dL_refuses_190 ?_
    refine lv_icmp_ne (tgt := 232) hx hb dL_refuses_192 (by decide) (fun c_11 => absurd (by decide) c_11) (fun c_11 => ?_)
    refine lv_aload_n hx hb dL_refuses_195 rfl (lv_at hl 3 rfl) ?_
    refine lv_bipush (v := 6) hx hb dL_refuses_196 (by decide) ?_
    refine lv_iconst (v := -1) hx hb dL_refuses_198 (by decide) ?_
    refine lv_iconst (v := 0) hx hb dL_refuses_199 (by decide) ?_
    refine lv_iconst (v := 0) hx hb dL_refuses_200 (by decide) ?_
    refine cl_i (va_runS (As := [.ref (ad 0 0 0), .int (6 : Int32), .int (-1 : Int32), .int (0 : Int32), .int (0 : Int32)]) (rest := []) ⟨hx, hb, hml, hown, hts⟩ (cca l hlt D cy ad (B := B) (V := V) (V' := V) hB (what := (6 : Int32)) (a := (-1 : Int32)) (b := (0 : Int32)) (c := (0 : Int32)) (r := (-9999001 : Int32)) ((fa_no V 0 0 (Or.inr (by decide))).1) ((fa_no V 0 0 (Or.inr (by decide))).2) (n15 (by decide)) H.size) (va_cwS 5 hts gL_refuses_L_call rfl rfl rfl (by decide +kernel) ⟨Nat.le_of_ble_eq_true rfl, Nat.le_of_ble_eq_true rfl⟩) ⟨blU, preU hP hD (pmI _) hK hE hS hA⟩ rfl rfl hl.1 rfl (lv_room (Nat.le_of_ble_eq_true rfl)) dL_refuses_201 ⟨Nat.le_of_ble_eq_true rfl, Nat.le_of_ble_eq_true rfl⟩) hP hD (pmI _) hS hA (fun H locs hP hD hS => ?_)
    have hP : va_P D vwCl (wB cy ad V) H := vP_perm hP (pmI _).symm
    have hD : va_D A (wB cy ad V) := vD_perm hD (pmI _).symm
    refine lv_ldc (v := (-9999001)) hx hb hown (hts _ (List.mem_of_getElem? (i := 2) rfl)) dL_refuses_204 ?_
    refine lv_icmp_ne (tgt := 232) hx hb dL_refuses_206 (by decide) (fun c_12 => absurd (by decide) c_12) (fun c_12 => ?_)
    refine lv_aload_n hx hb dL_refuses_209 rfl (lv_at hl 3 rfl) ?_
    refine lv_bipush (v := 7) hx hb dL_refuses_210 (by decide) ?_
    refine lv_iconst (v := -1) hx hb dL_refuses_212 (by decide) ?_
    refine lv_iload_n hx hb dL_refuses_213 rfl (lv_at hl 4 rfl) ?_
    refine lv_bipush (v := 9) hx hb dL_refuses_214 (by decide) ?_
    refine lv_irem hx hb dL_refuses_216 (by decide) ?_
    refine lv_isub hx hb dL_refuses_217 ?_
    refine lv_iconst (v := 0) hx hb dL_refuses_218 (by decide) ?_
    refine lv_iconst (v := 0) hx hb dL_refuses_219 (by decide) ?_
    refine cl_i (va_runS (As := [.ref (ad 0 0 0), .int (7 : Int32), .int ((-1 : Int32) - (x - x / (9 : Int32) * (9 : Int32))), .int (0 : Int32), .int (0 : Int32)]) (rest := []) ⟨hx, hb, hml, hown, hts⟩ (cca l hlt D cy ad (B := B) (V := V) (V' := V) hB (what := (7 : Int32)) (a := ((-1 : Int32) - (x - x / (9 : Int32) * (9 : Int32)))) (b := (0 : Int32)) (c := (0 : Int32)) (r := (-9999001 : Int32)) ((fa_sh V 0 0 (Or.inr (by rw [e9]; exact m1_neg k9))).1) ((fa_sh V 0 0 (Or.inr (by rw [e9]; exact m1_neg k9))).2) (n15 (by decide)) H.size) (va_cwS 5 hts gL_refuses_L_call rfl rfl rfl (by decide +kernel) ⟨Nat.le_of_ble_eq_true rfl, Nat.le_of_ble_eq_true rfl⟩) ⟨blU, preU hP hD (pmI _) hK hE hS hA⟩ rfl rfl hl.1 rfl (lv_room (Nat.le_of_ble_eq_true rfl)) dL_refuses_220 ⟨Nat.le_of_ble_eq_true rfl, Nat.le_of_ble_eq_true rfl⟩) hP hD (pmI _) hS hA (fun H locs hP hD hS => ?_)
    have hP : va_P D vwCl (wB cy ad V) H := vP_perm hP (pmI _).symm
    have hD : va_D A (wB cy ad V) := vD_perm hD (pmI _).symm
    refine lv_ldc (v := (-9999001)) hx hb hown (hts _ (List.mem_of_getElem? (i := 2) rfl)) dL_refuses_223 ?_
    refine lv_icmp_ne (tgt := 232) hx hb dL_refuses_225 (by decide) (fun c_13 => absurd (by decide) c_13) (fun c_13 => ?_)
    refine lv_iconst (v := 1) hx hb dL_refuses_228 (by decide) ?_
    refine lv_goto (tgt := 233) hx hb dL_refuses_229 (by decide) ?_
    refine lv_istore (lv' := [(4, .int (1 : Int32)), (3, .int (nI m0)), (2, .int nt), (0, .ref (ad 0 0 0)), (1, .int x)]) hx hb dL_refuses_233 hl (by decide) rfl (fun ls hl => ?_)
    exact sg2 H locs hP hD hS ls (lv_sub hl [0, 1, 2, 3, 4] rfl)
  refine lv_iconst (v := 1) hx hb dL_refuses_0 (by decide) ?_
  refine lv_aload_n hx hb dL_refuses_1 rfl (lv_at hl 0 rfl) ?_
  refine lv_iconst (v := 1) hx hb dL_refuses_2 (by decide) ?_
  refine lv_bipush (v := 7) hx hb dL_refuses_3 (by decide) ?_
  refine lv_iconst (v := 0) hx hb dL_refuses_5 (by decide) ?_
  refine lv_iconst (v := 0) hx hb dL_refuses_6 (by decide) ?_
  refine cl_i (va_runS (As := [.ref (ad 0 0 0), .int (1 : Int32), .int (7 : Int32), .int (0 : Int32), .int (0 : Int32)]) (rest := [.int (1 : Int32)]) ⟨hx, hb, hml, hown, hts⟩ (cca l hlt D cy ad (B := B) (V := V) (V' := V) hB (what := (1 : Int32)) (a := (7 : Int32)) (b := (0 : Int32)) (c := (0 : Int32)) (r := (nI z)) ((fa_i7 V 0 0).1.trans z3) (wc_1 V (7 : Int32) (0 : Int32) (0 : Int32)) (n15 (by decide)) H.size) (va_cwS 5 hts gL_refuses_L_call rfl rfl rfl (by decide +kernel) ⟨Nat.le_of_ble_eq_true rfl, Nat.le_of_ble_eq_true rfl⟩) ⟨blU, preU hP hD (pmI _) hK hE hS hA⟩ rfl rfl hl.1 rfl (lv_room (Nat.le_of_ble_eq_true rfl)) dL_refuses_7 ⟨Nat.le_of_ble_eq_true rfl, Nat.le_of_ble_eq_true rfl⟩) hP hD (pmI _) hS hA (fun H locs hP hD hS => ?_)
  have hP : va_P D vwCl (wB cy ad V) H := vP_perm hP (pmI _).symm
  have hD : va_D A (wB cy ad V) := vD_perm hD (pmI _).symm
  refine lv_ishl hx hb dL_refuses_10 ?_
  rw [ent]
  refine lv_istore_n (lv' := [(2, .int nt), (0, .ref (ad 0 0 0)), (1, .int x)]) hx hb dL_refuses_11 rfl hl (by decide) rfl (fun ls hl => ?_)
  refine lv_aload_n hx hb dL_refuses_12 rfl (lv_at hl 1 rfl) ?_
  refine lv_iconst (v := 1) hx hb dL_refuses_13 (by decide) ?_
  refine lv_bipush (v := 8) hx hb dL_refuses_14 (by decide) ?_
  refine lv_iconst (v := 0) hx hb dL_refuses_16 (by decide) ?_
  refine lv_iconst (v := 0) hx hb dL_refuses_17 (by decide) ?_
  refine cl_i (va_runS (As := [.ref (ad 0 0 0), .int (1 : Int32), .int (8 : Int32), .int (0 : Int32), .int (0 : Int32)]) (rest := []) ⟨hx, hb, hml, hown, hts⟩ (cca l hlt D cy ad (B := B) (V := V) (V' := V) hB (what := (1 : Int32)) (a := (8 : Int32)) (b := (0 : Int32)) (c := (0 : Int32)) (r := (nI m0)) ((fa_i8 V 0 0).1.trans m3) (wc_1 V (8 : Int32) (0 : Int32) (0 : Int32)) (n15 (by decide)) H.size) (va_cwS 5 hts gL_refuses_L_call rfl rfl rfl (by decide +kernel) ⟨Nat.le_of_ble_eq_true rfl, Nat.le_of_ble_eq_true rfl⟩) ⟨blU, preU hP hD (pmI _) hK hE hS hA⟩ rfl rfl hl.1 rfl (lv_room (Nat.le_of_ble_eq_true rfl)) dL_refuses_18 ⟨Nat.le_of_ble_eq_true rfl, Nat.le_of_ble_eq_true rfl⟩) hP hD (pmI _) hS hA (fun H locs hP hD hS => ?_)
  have hP : va_P D vwCl (wB cy ad V) H := vP_perm hP (pmI _).symm
  have hD : va_D A (wB cy ad V) := vD_perm hD (pmI _).symm
  refine lv_istore_n (lv' := [(3, .int (nI m0)), (2, .int nt), (0, .ref (ad 0 0 0)), (1, .int x)]) hx hb dL_refuses_21 rfl hl (by decide) rfl (fun ls hl => ?_)
  refine lv_aload_n hx hb dL_refuses_22 rfl (lv_at hl 2 rfl) ?_
  refine lv_iconst (v := 1) hx hb dL_refuses_23 (by decide) ?_
  refine lv_bipush (v := 10) hx hb dL_refuses_24 (by decide) ?_
  refine lv_iload_n hx hb dL_refuses_26 rfl (lv_at hl 3 rfl) ?_
  refine lv_bipush (v := 9) hx hb dL_refuses_27 (by decide) ?_
  refine lv_irem hx hb dL_refuses_29 (by decide) ?_
  refine lv_iadd hx hb dL_refuses_30 ?_
  refine lv_iconst (v := 0) hx hb dL_refuses_31 (by decide) ?_
  refine lv_iconst (v := 0) hx hb dL_refuses_32 (by decide) ?_
  refine cl_i (va_runS (As := [.ref (ad 0 0 0), .int (1 : Int32), .int ((10 : Int32) + (x - x / (9 : Int32) * (9 : Int32))), .int (0 : Int32), .int (0 : Int32)]) (rest := []) ⟨hx, hb, hml, hown, hts⟩ (cca l hlt D cy ad (B := B) (V := V) (V' := V) hB (what := (1 : Int32)) (a := ((10 : Int32) + (x - x / (9 : Int32) * (9 : Int32)))) (b := (0 : Int32)) (c := (0 : Int32)) (r := (-9999002 : Int32)) ((fa_ab V 0 0 (by rw [ti_add (c := (10 : Int32)) (n := 10) rfl e9 (by omega)]; omega)).1) ((fa_ab V 0 0 (by rw [ti_add (c := (10 : Int32)) (n := 10) rfl e9 (by omega)]; omega)).2) (n15 (by decide)) H.size) (va_cwS 5 hts gL_refuses_L_call rfl rfl rfl (by decide +kernel) ⟨Nat.le_of_ble_eq_true rfl, Nat.le_of_ble_eq_true rfl⟩) ⟨blU, preU hP hD (pmI _) hK hE hS hA⟩ rfl rfl hl.1 rfl (lv_room (Nat.le_of_ble_eq_true rfl)) dL_refuses_33 ⟨Nat.le_of_ble_eq_true rfl, Nat.le_of_ble_eq_true rfl⟩) hP hD (pmI _) hS hA (fun H locs hP hD hS => ?_)
  have hP : va_P D vwCl (wB cy ad V) H := vP_perm hP (pmI _).symm
  have hD : va_D A (wB cy ad V) := vD_perm hD (pmI _).symm
  refine lv_ldc (v := (-9999002)) hx hb hown (hts _ (List.mem_of_getElem? (i := 1) rfl)) dL_refuses_36 ?_
  refine lv_icmp_ne (tgt := 125) hx hb dL_refuses_38 (by decide) (fun c_1 => absurd (by decide) c_1) (fun c_1 => ?_)
  refine lv_aload_n hx hb dL_refuses_41 rfl (lv_at hl 2 rfl) ?_
  refine lv_iconst (v := 2) hx hb dL_refuses_42 (by decide) ?_
  refine lv_iconst (v := 2) hx hb dL_refuses_43 (by decide) ?_
  refine lv_iload_n hx hb dL_refuses_44 rfl (lv_at hl 3 rfl) ?_
  refine lv_bipush (v := 9) hx hb dL_refuses_45 (by decide) ?_
  refine lv_irem hx hb dL_refuses_47 (by decide) ?_
  refine lv_iadd hx hb dL_refuses_48 ?_
  refine lv_bipush (v := 9) hx hb dL_refuses_49 (by decide) ?_
  refine lv_iconst (v := 0) hx hb dL_refuses_51 (by decide) ?_
  refine cl_i (va_runS (As := [.ref (ad 0 0 0), .int (2 : Int32), .int ((2 : Int32) + (x - x / (9 : Int32) * (9 : Int32))), .int (9 : Int32), .int (0 : Int32)]) (rest := []) ⟨hx, hb, hml, hown, hts⟩ (cca l hlt D cy ad (B := B) (V := V) (V' := V) hB (what := (2 : Int32)) (a := ((2 : Int32) + (x - x / (9 : Int32) * (9 : Int32)))) (b := (9 : Int32)) (c := (0 : Int32)) (r := (-9999001 : Int32)) ((fa_dk V 9 0 (Or.inl (by rw [ti_add (c := (2 : Int32)) (n := 2) rfl e9 (by omega)]; omega))).1) ((fa_dk V 9 0 (Or.inl (by rw [ti_add (c := (2 : Int32)) (n := 2) rfl e9 (by omega)]; omega))).2) (n15 (by decide)) H.size) (va_cwS 5 hts gL_refuses_L_call rfl rfl rfl (by decide +kernel) ⟨Nat.le_of_ble_eq_true rfl, Nat.le_of_ble_eq_true rfl⟩) ⟨blU, preU hP hD (pmI _) hK hE hS hA⟩ rfl rfl hl.1 rfl (lv_room (Nat.le_of_ble_eq_true rfl)) dL_refuses_52 ⟨Nat.le_of_ble_eq_true rfl, Nat.le_of_ble_eq_true rfl⟩) hP hD (pmI _) hS hA (fun H locs hP hD hS => ?_)
  have hP : va_P D vwCl (wB cy ad V) H := vP_perm hP (pmI _).symm
  have hD : va_D A (wB cy ad V) := vD_perm hD (pmI _).symm
  refine lv_ldc (v := (-9999001)) hx hb hown (hts _ (List.mem_of_getElem? (i := 2) rfl)) dL_refuses_55 ?_
  refine lv_icmp_ne (tgt := 125) hx hb dL_refuses_57 (by decide) (fun c_2 => absurd (by decide) c_2) (fun c_2 => ?_)
  refine lv_aload_n hx hb dL_refuses_60 rfl (lv_at hl 2 rfl) ?_
  refine lv_iconst (v := 2) hx hb dL_refuses_61 (by decide) ?_
  refine lv_iload_n hx hb dL_refuses_62 rfl (lv_at hl 3 rfl) ?_
  refine lv_iconst (v := 2) hx hb dL_refuses_63 (by decide) ?_
  refine lv_irem hx hb dL_refuses_64 (by decide) ?_
  refine lv_iconst (v := 5) hx hb dL_refuses_65 (by decide) ?_
  refine lv_iconst (v := 0) hx hb dL_refuses_66 (by decide) ?_
  refine cl_i (va_runS (As := [.ref (ad 0 0 0), .int (2 : Int32), .int (x - x / (2 : Int32) * (2 : Int32)), .int (5 : Int32), .int (0 : Int32)]) (rest := []) ⟨hx, hb, hml, hown, hts⟩ (cca l hlt D cy ad (B := B) (V := V) (V' := V) hB (what := (2 : Int32)) (a := (x - x / (2 : Int32) * (2 : Int32))) (b := (5 : Int32)) (c := (0 : Int32)) (r := (-9999002 : Int32)) ((fa_dk5 V 0 d2).1) ((fa_dk5 V 0 d2).2) (n15 (by decide)) H.size) (va_cwS 5 hts gL_refuses_L_call rfl rfl rfl (by decide +kernel) ⟨Nat.le_of_ble_eq_true rfl, Nat.le_of_ble_eq_true rfl⟩) ⟨blU, preU hP hD (pmI _) hK hE hS hA⟩ rfl rfl hl.1 rfl (lv_room (Nat.le_of_ble_eq_true rfl)) dL_refuses_67 ⟨Nat.le_of_ble_eq_true rfl, Nat.le_of_ble_eq_true rfl⟩) hP hD (pmI _) hS hA (fun H locs hP hD hS => ?_)
  have hP : va_P D vwCl (wB cy ad V) H := vP_perm hP (pmI _).symm
  have hD : va_D A (wB cy ad V) := vD_perm hD (pmI _).symm
  refine lv_ldc (v := (-9999002)) hx hb hown (hts _ (List.mem_of_getElem? (i := 1) rfl)) dL_refuses_70 ?_
  refine lv_icmp_ne (tgt := 125) hx hb dL_refuses_72 (by decide) (fun c_3 => absurd (by decide) c_3) (fun c_3 => ?_)
  refine lv_aload_n hx hb dL_refuses_75 rfl (lv_at hl 2 rfl) ?_
  refine lv_iconst (v := 3) hx hb dL_refuses_76 (by decide) ?_
  refine lv_iload_n hx hb dL_refuses_77 rfl (lv_at hl 3 rfl) ?_
  refine lv_iconst (v := 2) hx hb dL_refuses_78 (by decide) ?_
  refine lv_irem hx hb dL_refuses_79 (by decide) ?_
  refine lv_iload_n hx hb dL_refuses_80 rfl (lv_at hl 1 rfl) ?_
  refine lv_bipush (v := 9) hx hb dL_refuses_81 (by decide) ?_
  refine cl_i (va_runS (As := [.ref (ad 0 0 0), .int (3 : Int32), .int (x - x / (2 : Int32) * (2 : Int32)), .int nt, .int (9 : Int32)]) (rest := []) ⟨hx, hb, hml, hown, hts⟩ (cca l hlt D cy ad (B := B) (V := V) (V' := V) hB (what := (3 : Int32)) (a := (x - x / (2 : Int32) * (2 : Int32))) (b := nt) (c := (9 : Int32)) (r := (-9999001 : Int32)) ((fa_ntN V 9 d2 (by rw [ent2]; exact chkN_bad z3 z1 z2 (Nat.le_refl _) h64)).1) ((fa_ntN V 9 d2 (by rw [ent2]; exact chkN_bad z3 z1 z2 (Nat.le_refl _) h64)).2) (n15 (by decide)) H.size) (va_cwS 5 hts gL_refuses_L_call rfl rfl rfl (by decide +kernel) ⟨Nat.le_of_ble_eq_true rfl, Nat.le_of_ble_eq_true rfl⟩) ⟨blU, preU hP hD (pmI _) hK hE hS hA⟩ rfl rfl hl.1 rfl (lv_room (Nat.le_of_ble_eq_true rfl)) dL_refuses_83 ⟨Nat.le_of_ble_eq_true rfl, Nat.le_of_ble_eq_true rfl⟩) hP hD (pmI _) hS hA (fun H locs hP hD hS => ?_)
  have hP : va_P D vwCl (wB cy ad V) H := vP_perm hP (pmI _).symm
  have hD : va_D A (wB cy ad V) := vD_perm hD (pmI _).symm
  refine lv_ldc (v := (-9999001)) hx hb hown (hts _ (List.mem_of_getElem? (i := 2) rfl)) dL_refuses_86 ?_
  refine lv_icmp_ne (tgt := 125) hx hb dL_refuses_88 (by decide) (fun c_4 => absurd (by decide) c_4) (fun c_4 => ?_)
  refine lv_aload_n hx hb dL_refuses_91 rfl (lv_at hl 2 rfl) ?_
  refine lv_iconst (v := 3) hx hb dL_refuses_92 (by decide) ?_
  refine lv_iload_n hx hb dL_refuses_93 rfl (lv_at hl 3 rfl) ?_
  refine lv_iconst (v := 2) hx hb dL_refuses_94 (by decide) ?_
  refine lv_irem hx hb dL_refuses_95 (by decide) ?_
  refine lv_iload_n hx hb dL_refuses_96 rfl (lv_at hl 3 rfl) ?_
  refine lv_iload_n hx hb dL_refuses_97 rfl (lv_at hl 1 rfl) ?_
  refine lv_irem hx hb dL_refuses_98 ntne ?_
  refine lv_iconst (v := 4) hx hb dL_refuses_99 (by decide) ?_
  refine cl_i (va_runS (As := [.ref (ad 0 0 0), .int (3 : Int32), .int (x - x / (2 : Int32) * (2 : Int32)), .int (x - x / nt * nt), .int (4 : Int32)]) (rest := []) ⟨hx, hb, hml, hown, hts⟩ (cca l hlt D cy ad (B := B) (V := V) (V' := V) hB (what := (3 : Int32)) (a := (x - x / (2 : Int32) * (2 : Int32))) (b := (x - x / nt * nt)) (c := (4 : Int32)) (r := (-9999002 : Int32)) ((fa_nt4 V d2 (by rw [eN]; exact chkN_ok z3 z1 z2 (Nat.mod_lt _ (Nat.two_pow_pos z)))).1) ((fa_nt4 V d2 (by rw [eN]; exact chkN_ok z3 z1 z2 (Nat.mod_lt _ (Nat.two_pow_pos z)))).2) (n15 (by decide)) H.size) (va_cwS 5 hts gL_refuses_L_call rfl rfl rfl (by decide +kernel) ⟨Nat.le_of_ble_eq_true rfl, Nat.le_of_ble_eq_true rfl⟩) ⟨blU, preU hP hD (pmI _) hK hE hS hA⟩ rfl rfl hl.1 rfl (lv_room (Nat.le_of_ble_eq_true rfl)) dL_refuses_100 ⟨Nat.le_of_ble_eq_true rfl, Nat.le_of_ble_eq_true rfl⟩) hP hD (pmI _) hS hA (fun H locs hP hD hS => ?_)
  have hP : va_P D vwCl (wB cy ad V) H := vP_perm hP (pmI _).symm
  have hD : va_D A (wB cy ad V) := vD_perm hD (pmI _).symm
  refine lv_ldc (v := (-9999002)) hx hb hown (hts _ (List.mem_of_getElem? (i := 1) rfl)) dL_refuses_103 ?_
  refine lv_icmp_ne (tgt := 125) hx hb dL_refuses_105 (by decide) (fun c_5 => absurd (by decide) c_5) (fun c_5 => ?_)
  refine lv_aload_n hx hb dL_refuses_108 rfl (lv_at hl 2 rfl) ?_
  refine lv_iconst (v := 3) hx hb dL_refuses_109 (by decide) ?_
  refine lv_iconst (v := 2) hx hb dL_refuses_110 (by decide) ?_
  refine lv_iconst (v := 0) hx hb dL_refuses_111 (by decide) ?_
  refine lv_iconst (v := 0) hx hb dL_refuses_112 (by decide) ?_
  refine cl_i (va_runS (As := [.ref (ad 0 0 0), .int (3 : Int32), .int (2 : Int32), .int (0 : Int32), .int (0 : Int32)]) (rest := []) ⟨hx, hb, hml, hown, hts⟩ (cca l hlt D cy ad (B := B) (V := V) (V' := V) hB (what := (3 : Int32)) (a := (2 : Int32)) (b := (0 : Int32)) (c := (0 : Int32)) (r := (-9999001 : Int32)) ((fa_nt V 0 0 (Or.inl (by decide))).1) ((fa_nt V 0 0 (Or.inl (by decide))).2) (n15 (by decide)) H.size) (va_cwS 5 hts gL_refuses_L_call rfl rfl rfl (by decide +kernel) ⟨Nat.le_of_ble_eq_true rfl, Nat.le_of_ble_eq_true rfl⟩) ⟨blU, preU hP hD (pmI _) hK hE hS hA⟩ rfl rfl hl.1 rfl (lv_room (Nat.le_of_ble_eq_true rfl)) dL_refuses_113 ⟨Nat.le_of_ble_eq_true rfl, Nat.le_of_ble_eq_true rfl⟩) hP hD (pmI _) hS hA (fun H locs hP hD hS => ?_)
  have hP : va_P D vwCl (wB cy ad V) H := vP_perm hP (pmI _).symm
  have hD : va_D A (wB cy ad V) := vD_perm hD (pmI _).symm
  refine lv_ldc (v := (-9999001)) hx hb hown (hts _ (List.mem_of_getElem? (i := 2) rfl)) dL_refuses_116 ?_
  refine lv_icmp_ne (tgt := 125) hx hb dL_refuses_118 (by decide) (fun c_6 => absurd (by decide) c_6) (fun c_6 => ?_)
  refine lv_iconst (v := 1) hx hb dL_refuses_121 (by decide) ?_
  refine lv_goto (tgt := 126) hx hb dL_refuses_122 (by decide) ?_
  refine lv_istore (lv' := [(4, .int (1 : Int32)), (3, .int (nI m0)), (2, .int nt), (0, .ref (ad 0 0 0)), (1, .int x)]) hx hb dL_refuses_126 hl (by decide) rfl (fun ls hl => ?_)
  exact sg1 H locs hP hD hS ls (lv_sub hl [0, 1, 2, 3, 4] rfl)
