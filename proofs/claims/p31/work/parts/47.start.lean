/-! ===== the law: what stands at its start; its cells ===== -/
theorem tb_mem {w : Cond} {i : Nat} (h : tables_1[i]? = some w) : w ∈ lw_tbl := List.mem_append_right (k2_sels lw_privs) (List.mem_of_getElem? h)
theorem k_arr {s : State} {args : Array Value} (h : (Cond.arrayClass .int).before args s = true) : ∃ cA : ClassId, ArrOfT s cA .int ∧ va_RA s cA .int := by
  obtain ⟨c, k, comp, h1, h2, h3⟩ := Cond.arrayClass_spec h
  exact ⟨c, fun n z => ⟨fun k h => (by cases h), k, h2, comp, h3⟩, h1⟩
theorem k_arz {s : State} {args : Array Value} (h : (Cond.arrayClass .boolean).before args s = true) : ∃ cA : ClassId, ArrOfT s cA .boolean ∧ va_RA s cA .boolean := by
  obtain ⟨c, k, comp, h1, h2, h3⟩ := Cond.arrayClass_spec h
  exact ⟨c, fun n z => ⟨fun k h => (by cases h), k, h2, comp, h3⟩, h1⟩
theorem k_ref {s : State} {C : String} {args : Array Value} (h : (Cond.arrayOver (.object C)).before args s = true) : ∃ cA : ClassId, ArrOfT s cA (.object C) ∧ va_RA s cA (.object C) := by
  obtain ⟨comp, c, k, g1, g2, g3, g4, g5⟩ := Cond.arrayOver_spec h
  exact ⟨c, fun n z => ⟨fun k h => (by cases h), k, g3, comp, g4⟩, k, comp, g3, g4, g1, g5⟩
theorem evT_of {s : State} {args : Array Value} {nm : String} {f : Nat → Int32} {A : Nat → Prop} (hl : (Cond.laysStatic RX5 nm "[I").before args s = true) (hini : (Cond.initialized RX5).before args s = true) (ha : (Cond.arrayOf (.static RX5 nm "[I") .int).before args s = true) (hn : (Cond.eq (.length (.static RX5 nm "[I")) (.int 3)).before args s = true)
    (h0 : (Cond.eq (.elem (.static RX5 nm "[I") (.int 0)) (.int (f 0))).before args s = true) (h1 : (Cond.eq (.elem (.static RX5 nm "[I") (.int 1)) (.int (f 1))).before args s = true) (h2 : (Cond.eq (.elem (.static RX5 nm "[I") (.int 2)) (.int (f 2))).before args s = true) (hA : ∀ a : Nat, a < s.heap.size → ¬ A a) : evT nm f A s s.heap := by
  obtain ⟨t, e1, e2⟩ := va_Tof (N := 3) (f := fun j => .int (f j)) (A := A) (by decide) ha (va_eqt hn) (fun j hj => by
    have hj3 : j = 0 ∨ j = 1 ∨ j = 2 := by omega
    rcases hj3 with rfl | rfl | rfl
    · exact va_eqt h0
    · exact va_eqt h1
    · exact va_eqt h2) hA
  exact ⟨t, va_Zof hl hini e1 hA, e2⟩
set_option maxHeartbeats 4000000 in
set_option maxRecDepth 100000 in
theorem evS_in : ∀ q ∈ evS, Cond.stringRef RX5 q.1 q.2 ∈ lw_tbl := List.forall_mem_cons.mpr ⟨tb_mem (i := 444) (by decide +kernel), List.forall_mem_cons.mpr ⟨tb_mem (i := 458) (by decide +kernel), List.forall_mem_cons.mpr ⟨tb_mem (i := 473) (by decide +kernel), List.forall_mem_cons.mpr ⟨tb_mem (i := 506) (by decide +kernel), List.forall_mem_cons.mpr ⟨tb_mem (i := 521) (by decide +kernel), List.forall_mem_cons.mpr ⟨tb_mem (i := 535) (by decide +kernel), List.forall_mem_cons.mpr ⟨tb_mem (i := 571) (by decide +kernel), List.forall_mem_cons.mpr ⟨tb_mem (i := 586) (by decide +kernel), List.forall_mem_cons.mpr ⟨tb_mem (i := 596) (by decide +kernel), List.forall_mem_cons.mpr ⟨tb_mem (i := 633) (by decide +kernel), List.forall_mem_cons.mpr ⟨tb_mem (i := 650) (by decide +kernel), List.forall_mem_cons.mpr ⟨tb_mem (i := 259) (by decide +kernel), List.forall_mem_cons.mpr ⟨tb_mem (i := 290) (by decide +kernel), List.forall_mem_cons.mpr ⟨tb_mem (i := 416) (by decide +kernel), List.forall_mem_cons.mpr ⟨tb_mem (i := 701) (by decide +kernel), List.forall_mem_cons.mpr ⟨tb_mem (i := 495) (by decide +kernel), List.forall_mem_cons.mpr ⟨tb_mem (i := 533) (by decide +kernel), List.forall_mem_cons.mpr ⟨tb_mem (i := 693) (by decide +kernel), List.forall_mem_cons.mpr ⟨tb_mem (i := 520) (by decide +kernel), fun _ h => absurd h List.not_mem_nil⟩⟩⟩⟩⟩⟩⟩⟩⟩⟩⟩⟩⟩⟩⟩⟩⟩⟩⟩
theorem evR_of {s : State} {args : Array Value} (hts : ∀ w ∈ lw_tbl, w.before args s = true) : evR s := by
  intro q hq
  obtain ⟨cC, kC, hfc, hk, hkind, -⟩ := Cond.instantiable_spec (show (Cond.instantiable RX5 6).before args s = true from hts _ (tb_mem (i := 17) (by decide +kernel)))
  obtain ⟨k, cf, i, a, h1, h2, h3, h4, h5, h6⟩ := Cond.stringRef_spec hfc (hts _ (evS_in q hq))
  exact ⟨a, vk_R.of (hts _ (evS_in q hq)) h6⟩
set_option maxHeartbeats 8000000 in
set_option maxRecDepth 100000 in
theorem ev_start {s : State} {b : Nat} {A : Nat → Prop} (hts : ∀ w ∈ lw_tbl, w.before #[Value.ref b] s = true) (hgv : (Jvm.Cond.and given_1 narrow_1).before #[Value.ref b] s = true) (hA : ∀ a : Nat, a < s.heap.size → ¬ A a) : Ev A s s.heap := by
  have hf := flat_of_before _ hgv
  refine ⟨?_, ?_, ?_, ?_, ?_, ?_, ?_, ?_⟩
  · exact (vx_Zqof (hts _ (tb_mem (i := 245) (by decide +kernel))) (hts _ (tb_mem (i := 7) (by decide +kernel))) (hf (.isRef (.static Bundle.tN "UNASSIGNED_STACK" Bundle.steD)) (by decide +kernel)) hA)
  · exact (vx_Zqof (hts _ (tb_mem (i := 247) (by decide +kernel))) (hts _ (tb_mem (i := 7) (by decide +kernel))) (hf (.isRef (.static Bundle.tN "SUPPRESSED_SENTINEL" Bundle.listD)) (by decide +kernel)) hA)
  · exact (evT_of (hts _ (tb_mem (i := 366) (by decide +kernel))) (hts _ (tb_mem (i := 1) (by decide +kernel))) (hf (.arrayOf (.static RX5 "DESK_MOST" "[I") .int) (by decide +kernel)) (hf (.eq (.length (.static RX5 "DESK_MOST" "[I")) (.int 3)) (by decide +kernel)) (hf (.eq (.elem (.static RX5 "DESK_MOST" "[I") (.int 0)) (.int 4)) (by decide +kernel)) (hf (.eq (.elem (.static RX5 "DESK_MOST" "[I") (.int 1)) (.int 6)) (by decide +kernel)) (hf (.eq (.elem (.static RX5 "DESK_MOST" "[I") (.int 2)) (.int 1)) (by decide +kernel)) hA)
  · exact (evT_of (hts _ (tb_mem (i := 378) (by decide +kernel))) (hts _ (tb_mem (i := 1) (by decide +kernel))) (hf (.arrayOf (.static RX5 "COMMON_LEAST" "[I") .int) (by decide +kernel)) (hf (.eq (.length (.static RX5 "COMMON_LEAST" "[I")) (.int 3)) (by decide +kernel)) (hf (.eq (.elem (.static RX5 "COMMON_LEAST" "[I") (.int 0)) (.int 2)) (by decide +kernel)) (hf (.eq (.elem (.static RX5 "COMMON_LEAST" "[I") (.int 1)) (.int 1)) (by decide +kernel)) (hf (.eq (.elem (.static RX5 "COMMON_LEAST" "[I") (.int 2)) (.int 0)) (by decide +kernel)) hA)
  · exact (evT_of (hts _ (tb_mem (i := 380) (by decide +kernel))) (hts _ (tb_mem (i := 1) (by decide +kernel))) (hf (.arrayOf (.static RX5 "COMMON_MOST" "[I") .int) (by decide +kernel)) (hf (.eq (.length (.static RX5 "COMMON_MOST" "[I")) (.int 3)) (by decide +kernel)) (hf (.eq (.elem (.static RX5 "COMMON_MOST" "[I") (.int 0)) (.int 6)) (by decide +kernel)) (hf (.eq (.elem (.static RX5 "COMMON_MOST" "[I") (.int 1)) (.int 4)) (by decide +kernel)) (hf (.eq (.elem (.static RX5 "COMMON_MOST" "[I") (.int 2)) (.int 9)) (by decide +kernel)) hA)
  · exact evR_of hts
  · exact ⟨(va_Nc.of (hf (.not (.castable "java/lang/IllegalArgumentException" "java/lang/IndexOutOfBoundsException")) (by decide +kernel))), (va_Nc.of (hf (.not (.castable "java/lang/IllegalStateException" "java/lang/IndexOutOfBoundsException")) (by decide +kernel))), (va_Nc.of (hf (.not (.castable "java/lang/IllegalStateException" "java/lang/IllegalArgumentException")) (by decide +kernel)))⟩
  · exact ⟨(va_Nw.of rfl (hts _ (tb_mem (i := 26) (by decide +kernel)))), (va_Nw.of rfl (hts _ (tb_mem (i := 69) (by decide +kernel)))), (va_Nw.of rfl (hts _ (tb_mem (i := 309) (by decide +kernel)))), (va_Nw.of rfl (hts _ (tb_mem (i := 359) (by decide +kernel)))), (va_Nw.of rfl (hts _ (tb_mem (i := 362) (by decide +kernel)))), (va_Nw.of rfl (hts _ (tb_mem (i := 374) (by decide +kernel)))), va_AO.of (hts _ (tb_mem (i := 67) (by decide +kernel))), va_AO.of (hts _ (tb_mem (i := 177) (by decide +kernel))), ⟨(va_Nw.of rfl (hts _ (tb_mem (i := 222) (by decide +kernel)))), (va_Nw.of rfl (hts _ (tb_mem (i := 224) (by decide +kernel)))), (va_Nw.of rfl (hts _ (tb_mem (i := 226) (by decide +kernel)))), (va_Nw.of rfl (hts _ (tb_mem (i := 488) (by decide +kernel)))), (va_Nw.of rfl (hts _ (tb_mem (i := 220) (by decide +kernel)))), (va_Nw.of rfl (hts _ (tb_mem (i := 451) (by decide +kernel))))⟩⟩
set_option maxHeartbeats 4000000 in
set_option maxRecDepth 100000 in
theorem k_start {s : State} {args : Array Value} (hts : ∀ w ∈ lw_tbl, w.before args s = true) : ∃ (D : va_G) (cy : Nat → ClassId), va_K D vwCl (ty4 cy) s := by
  obtain ⟨d0, e0, h0⟩ := u_known (C := RX0) (T := TX0) (N := 8) (n := 8) hts inX0 (hts _ (tb_mem (i := 68) (by decide +kernel)))
  obtain ⟨d1, e1, h1⟩ := u_known (C := RX1) (T := TX1) (N := 3) (n := 3) hts inX1 (hts _ (tb_mem (i := 171) (by decide +kernel)))
  obtain ⟨d2, e2, h2⟩ := u_known (C := RX3) (T := TX3) (N := 11) (n := 11) hts inX3 (hts _ (tb_mem (i := 61) (by decide +kernel)))
  obtain ⟨d3, e3, h3⟩ := u_known (C := RX4) (T := TX4) (N := 8) (n := 8) hts inX4 (hts _ (tb_mem (i := 25) (by decide +kernel)))
  obtain ⟨d4, e4, h4⟩ := u_known (C := RX5) (T := TX5) (N := 6) (n := 6) hts inX5 (hts _ (tb_mem (i := 17) (by decide +kernel)))
  obtain ⟨y0, a0, b0⟩ := k_arr (hts _ (tb_mem (i := 59) (by decide +kernel)))
  obtain ⟨y1, a1, b1⟩ := k_arz (hts _ (tb_mem (i := 209) (by decide +kernel)))
  obtain ⟨y2, a2, b2⟩ := k_ref (C := RX0) (hts _ (tb_mem (i := 67) (by decide +kernel)))
  obtain ⟨y3, a3, b3⟩ := k_ref (C := RX3) (hts _ (tb_mem (i := 177) (by decide +kernel)))
  refine ⟨(fun k => if k = 0 then d0 else if k = 1 then d1 else if k = 2 then d2 else if k = 3 then d3 else d4, fun k => if k = 0 then e0 else if k = 1 then e1 else if k = 2 then e2 else if k = 3 then e3 else e4), fun k => if k = 0 then y0 else if k = 1 then y1 else if k = 2 then y2 else y3, ?_, ?_⟩
  · intro k q hq
    match k, hq with
    | 0, hq => cases hq; exact h0
    | 1, hq => cases hq; exact h1
    | 2, hq => cases hq; exact h2
    | 3, hq => cases hq; exact h3
    | 4, hq => cases hq; exact h4
    | k + 5, hq => simp at hq
  · intro k q hq
    match k, hq with
    | 0, hq => cases hq; exact ⟨a0, b0⟩
    | 1, hq => cases hq; exact ⟨a1, b1⟩
    | 2, hq => cases hq; exact ⟨a2, b2⟩
    | 3, hq => cases hq; exact ⟨a3, b3⟩
    | k + 4, hq => simp at hq
/-! the script's cells -/
def PX (b L : Nat) (xs : Nat → Int32) (sz : Nat) (av : List Value) : Array Value → State → Prop := va_Pc av (fun U => U.heap.size = sz ∧ va_X b L xs U U.heap ∧ b < U.heap.size)
theorem blX {b L sz : Nat} {xs : Nat → Int32} {av : List Value} : FrameBlind (PX b L xs sz av) := by
  intro a U g mk q
  obtain ⟨q0, q1, q2, q3⟩ := q
  exact ⟨q0, q1, va_X.moved (u := U) (U := U.calling g mk a) (Vm.Alike.refl U.vm) q2, q3⟩
theorem preX {b L : Nat} {xs : Nat → Int32} {s : State} {H : Heap} {A : Nat → Prop} {locs : List Loc} {As : List Value} (hX : va_X b L xs s s.heap) (hbl : b < s.heap.size) (hbA : ¬ A b) (hS : va_S A s.heap H locs) : ∀ U : State, U.heap = H → s.WarmedH U.vm → PX b L xs H.size As As.toArray U := by
  intro U hU hW
  refine ⟨rfl, by rw [hU], ?_, ?_⟩
  · rw [hU]
    exact (va_X.moved hW.alike hX).kept (hS.2.1 b hbl hbA)
  · rw [hU]
    exact Nat.lt_of_lt_of_le hbl hS.1
theorem bw0 {D : va_G} {sz : Nat} {t : State} : BW D [] sz [] t := ⟨fun k q h => by simp at h, ⟨fun i j p q h => by simp at h, fun k q h => by simp at h⟩⟩
def cellv (xs : Nat → Int32) (L k : Nat) : Int32 := (if k < L then xs k else (15518147 : Int32) * (nI k + (3 : Int32)) + (10433 : Int32)) &&& (2147483647 : Int32)
theorem cell_nI (xs : Nat → Int32) (L k : Nat) : ∃ n, n < 2 ^ 31 ∧ cellv xs L k = nI n := pk_andE _ 31 (by decide +kernel)
abbrev rL_cell : Room := { frames := 0, cells := 0, slots := 0, locals := 0 }
set_option maxHeartbeats 4000000 in
set_option maxRecDepth 100000 in
theorem c_L_cell (l : Launch) (D : va_G) {b L : Nat} {xs : Nat → Int32} (hL : L ≤ 260) {k : Nat} (hk : k < 1000) (sz : Nat) {r : Int32} (hr9 : cellv xs L k = r) : Met l yL_cell wsL_cell rL_cell (PX b L xs sz [.ref b, .int (nI k)]) (RsI D [] sz r []) 0 0 (va_A [] sz) := by
  subst hr9
  refine Met.ofW (cc := cL_cell) (maxL := 2) (ret := some .int) (by decide) rfl ?_
  intro p e s m args below meth c s₁ B hml hv
  obtain ⟨rfl, hsz, hX, hbl⟩ := hv
  have hx := B.exec
  have hb := B.bytes
  have hr := B.returns
  have hts := atoms_spec (ws := wsL_cell) B.pre
  have hown : s.vm.findClass RL = some m.cls := findClass_of_methodNamed B.named
  have hlocks := B.notSynchronized
  have hl := lv_entry ([.ref b, .int (nI k)] : List Value) (n := 2) (Nat.le_of_ble_eq_true rfl)
  rw [lg_entry_eq]
  generalize (lg_sl ([.ref b, .int (nI k)] : List Value) ++ List.replicate (2 - (lg_sl ([.ref b, .int (nI k)] : List Value)).length) Slot.unset).toArray = ls at hl ⊢
  have hl : lv_has ls 2 [(0, .ref b), (1, .int (nI k))] := hl
  have hS : va_S (va_A [] sz) s.heap s.heap [] := va_S.rf
  have hbA : ¬ va_A [] sz b := by
    rintro (⟨j, e9, h9⟩ | h9)
    · simp at h9
    · omega
  have fin : ∀ (v : Int32), v = (if k < L then xs k else (15518147 : Int32) * (nI k + (3 : Int32)) + (10433 : Int32)) → ∀ ls : Array Slot, W p l e rL_cell s m ([.ref b, .int (nI k)] : List Value).toArray below meth c s.heap [] 0 0 (MQ below (RsI D [] sz (cellv xs L k) []) ([.ref b, .int (nI k)] : List Value).toArray s 0 0 (va_A [] sz)) (F0 m 22 ls [.int v]) := by
    intro v hv ls
    refine lv_ldc (v := 2147483647) hx hb hown (hts _ (List.mem_of_getElem? (i := 2) rfl)) dL_cell_22 ?_
    refine lv_iand hx hb dL_cell_24 ?_
    exact W.zret hx hb hr rfl (fun t ht hW => ⟨⟨_, (), rfl, (by unfold cellv; rw [hv]), bw0⟩, hS.F ht⟩) (fun q hq => absurd hq List.not_mem_nil) dL_cell_25 hlocks
  refine lv_iload_n hx hb dL_cell_0 rfl (lv_at hl 1 rfl) ?_
  refine lv_aload_n hx hb dL_cell_1 rfl (lv_at hl 0 rfl) ?_
  refine va_slen hx hb hX hbl hbA hS dL_cell_2 ?_
  by_cases hkL : k < L
  · refine lv_icmp_ge (tgt := 12) hx hb dL_cell_3 (by decide) (fun c1 => absurd c1 (nI_ge (a := k) (b := L) hkL (by omega))) (fun c1 => ?_)
    refine lv_aload_n hx hb dL_cell_6 rfl (lv_at hl 0 rfl) ?_
    refine lv_iload_n hx hb dL_cell_7 rfl (lv_at hl 1 rfl) ?_
    refine va_sld hx hb hX hbl hbA hS (vp_in_nI hkL (by omega)) dL_cell_8 ?_
    refine lv_goto (tgt := 22) hx hb dL_cell_9 (by decide) ?_
    exact fin _ (by rw [nI_clamp (by omega), if_pos hkL]) ls
  · refine lv_icmp_ge (tgt := 12) hx hb dL_cell_3 (by decide) (fun c1 => ?_) (fun c1 => absurd (show nI L ≤ nI k from nI_le (by omega) (by omega)) c1)
    refine lv_ldc (v := 15518147) hx hb hown (hts _ (List.mem_of_getElem? (i := 1) rfl)) dL_cell_12 ?_
    refine lv_iload_n hx hb dL_cell_14 rfl (lv_at hl 1 rfl) ?_
    refine lv_iconst (v := 3) hx hb dL_cell_15 (by decide) ?_
    refine lv_iadd hx hb dL_cell_16 ?_
    refine lv_imul hx hb dL_cell_17 ?_
    refine lv_sipush (v := 10433) hx hb dL_cell_18 (by decide) ?_
    refine lv_iadd hx hb dL_cell_21 ?_
    exact fin _ (by rw [if_neg hkL]) ls
