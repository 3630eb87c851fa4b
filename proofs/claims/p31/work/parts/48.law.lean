/-! ===== the claim out of one walk of the law (pasted: kit/laws/SKELETON) ===== -/
def R_law : String := "BranchNotesLaw"
def lw_P (b : Addr) (xs : List Int32) (args : Array Value) (s : State) : Prop := args = #[.ref b] ∧ s.IntsAt b xs ∧ xs.length ≤ 260 ∧ (Jvm.Cond.and given_1 narrow_1).before args s = true
def lw_Q (_ : Array Value) (s : State) (o : Outcome) (t : State) : Prop := o = .returned (some (.int 1)) ∧ Framed s o t [] 600130 7301079
def lw_Z (below : List Frame) (a : Array Value) (s : State) : State → Prop := fun t => ∃ o, t.status = .running ∧ Ended t below o ∧ lw_Q a s o t
/-- the law's own end, with 1 on the stack, nothing written that was there before, its room as the claim has it -/
theorem lw_ret {p : Program} {l : Launch} {e : Env} {s : State} {m : MethodId} {below : List Frame} {meth : Method} {c : Code} {b : Nat} (hx : p.tables.exec = Jvm.exec) (hb : c.code = code) (hr : meth.sig.returnType = ret) (hlocks : meth.locks = false) {pc : Nat} {H : Heap} {ls : Array Slot} (hdg : decode code pc = .ok (.ireturn, 1)) : W p l e room_1 s m #[Value.ref b] below meth c H [] 600130 7301079 (lw_Z below #[Value.ref b] s) (F0 m pc ls [.int 1]) := by
  intro T hT X
  obtain ⟨fs, hret, hrun, hended, hW, hframe⟩ := X.leave (v := some (.int 1)) (hlocks := hlocks) (fun h => by rw [hr] at h; cases h)
  have hmeth' : T.vm.method? m = some meth := X.method'
  refine ⟨T.setFrames fs, ?_, .returned (some (.int 1)), hrun, hended, rfl, ⟨_, rfl⟩, hW, hframe⟩
  jvm_step X.here [X.here.top, hx, hb, hdg, hmeth', hr, ret, narrow_b1]
  (try refine ⟨rfl, ?_⟩); (try refine ⟨rfl, ?_⟩)
  first | (intro acts; rw [hret _ acts rfl rfl rfl]) | rw [hret _ _ rfl rfl rfl]
  exact Steps.refl _
/-- what holds at the law's entry: the machine, the code, the tables' words (any of lw_tbl by 'hts w (by decide +kernel)'), the script of L ints xs at the cell b, what the Statement gives of the start (any of its parts by flat_of_before) -/
def lw_At (p : Program) (s : State) (m : MethodId) (meth : Method) (c : Code) (b L : Nat) (xs : Nat → Int32) : Prop :=
  p.tables.exec = Jvm.exec ∧ c.code = code ∧ meth.sig.returnType = ret ∧ c.maxLocals = 10 ∧ s.vm.findClass R_law = some m.cls ∧ (∀ w ∈ lw_tbl, w.before #[Value.ref b] s = true) ∧ va_X b L xs s s.heap ∧ b < s.heap.size ∧ meth.locks = false ∧ (Jvm.Cond.and given_1 narrow_1).before #[Value.ref b] s = true
/-! ===== the law: its loop ===== -/
set_option maxHeartbeats 8000000 in
set_option maxRecDepth 100000 in
theorem law_loop {p : Program} {e : Env} {s : State} {m : MethodId} {below : List Frame} {meth : Method} {c : Code} {l : Launch} (hlt : l.stackTraces = false) {b L : Nat} {xs : Nat → Int32} (hL : L ≤ 260) (C0 : lw_At p s m meth c b L xs) {D : va_G} {cy : Nat → ClassId} (hK : va_K D vwCl (ty4 cy) s) (hE : Ev (fun q : Nat => s.heap.size ≤ q) s s.heap) (ad bd : AD) :
    ∀ (k i cs sl : Nat) (V : BV) (hB : BInv (1000 * i) V) (_ : i + k = 28) (_ : cs + 5130 * k ≤ 144414) (_ : sl + 30780 * k ≤ 888094) (H : Heap) (locs : List Loc), va_P D vwCl (wB cy ad V ++ wB cy bd V) H → va_D (fun q : Nat => s.heap.size ≤ q) (wB cy ad V ++ wB cy bd V) → va_S (fun q : Nat => s.heap.size ≤ q) s.heap H locs → ∀ ls : Array Slot, lv_has ls 10 [(4, .int (nI i)), (3, .int (1 : Int32)), (0, .ref b), (1, .ref (ad 0 0 0)), (2, .ref (bd 0 0 0))] → W p l e room_1 s m #[Value.ref b] below meth c H locs cs sl (lw_Z below #[Value.ref b] s) (F0 m 21 ls []) := by
  obtain ⟨hx, hb, hr, hml, hown, hts, hX, hbl, hlocks, hgv⟩ := id C0
  have hts : ∀ w ∈ wsL_law, w.before #[Value.ref b] s = true := fun w h => hts w (wsL_law_in w h)
  have hb : c.code = cL_law := hb
  have hown : s.vm.findClass RL = some m.cls := hown
  have hA : ∀ q : Nat, s.heap.size ≤ q → (fun q : Nat => s.heap.size ≤ q) q := fun _ h => h
  have hbA : ¬ (fun q : Nat => s.heap.size ≤ q) b := Nat.not_le.mpr hbl
  intro k
  induction k with
  | zero =>
    intro i cs sl V hB hi hc hs H locs hP hD hS ls hl
    have hi9 : i = 28 := by omega
    subst hi9
    refine lv_iload hx hb dL_law_21 (lv_at hl 0 rfl) ?_
    refine lv_bipush (v := 28) hx hb dL_law_23 (by decide) ?_
    refine lv_icmp_ge (tgt := 244) hx hb dL_law_25 (by decide) (fun c_1 => ?_) (fun c_1 => absurd (show (28 : Int32) ≤ nI 28 from Int32.le_refl _) c_1)
    refine lv_iload_n hx hb dL_law_244 rfl (lv_at hl 1 rfl) ?_
    refine va_forget (fun q hq => hS.2.2 q hq) ?_
    refine W.widen (k := 600130) (n := 7301079) (by omega) (by omega) ?_
    exact lw_ret hx hb hr hlocks dL_law_245
  | succ k ih =>
    intro i cs sl V hB hi hc hs H locs hP hD hS ls hl
    obtain ⟨n1, hn1, ex1⟩ := cell_nI xs L (2 * i)
    obtain ⟨n2, hn2, ex2⟩ := cell_nI xs L (2 * i + 1)
    obtain ⟨ra, V1, hB1, hact⟩ := act_ok hB (by omega) (x := nI n1) (y := nI n2) rfl hn1
    have j238 : ∀ (U : BV) (_ : BInv (1000 * (i + 1)) U) (H : Heap) (locs : List Loc), va_P D vwCl (wB cy ad U ++ wB cy bd U) H → va_D (fun q : Nat => s.heap.size ≤ q) (wB cy ad U ++ wB cy bd U) → va_S (fun q : Nat => s.heap.size ≤ q) s.heap H locs → ∀ ls : Array Slot, lv_has ls 10 [(3, .int (1 : Int32)), (4, .int (nI i)), (0, .ref b), (1, .ref (ad 0 0 0)), (2, .ref (bd 0 0 0))] → W p l e room_1 s m #[Value.ref b] below meth c H locs (cs + 5130) (sl + 30780) (lw_Z below #[Value.ref b] s) (F0 m 238 ls []) := by
      intro U hU H locs hP hD hS ls hl
      refine lv_iinc (v := (nI (i + 1))) (lv' := [(4, .int (nI (i + 1))), (3, .int (1 : Int32)), (0, .ref b), (1, .ref (ad 0 0 0)), (2, .ref (bd 0 0 0))]) hx hb dL_law_238 hl (k := 1) rfl (nI_1 i) (by decide) rfl (fun ls hl => ?_)
      refine lv_goto (tgt := 21) hx hb dL_law_241 (by decide) ?_
      exact ih (i + 1) (cs + 5130) (sl + 30780) U hU (by omega) (by omega) (by omega) H locs hP hD hS ls (lv_sub hl [0, 1, 2, 3, 4] rfl)
    refine lv_iload hx hb dL_law_21 (lv_at hl 0 rfl) ?_
    refine lv_bipush (v := 28) hx hb dL_law_23 (by decide) ?_
    refine lv_icmp_ge (tgt := 244) hx hb dL_law_25 (by decide) (fun c_2 => absurd c_2 (nI_ge (a := i) (b := 28) (by omega) (by decide))) (fun c_2 => ?_)
    refine lv_iload_n hx hb dL_law_28 rfl (lv_at hl 1 rfl) ?_
    refine lv_if_eq (tgt := 244) hx hb dL_law_29 (by decide) (fun c_3 => absurd c_3 (by decide)) (fun c_3 => ?_)
    refine lv_aload_n hx hb dL_law_32 rfl (lv_at hl 2 rfl) ?_
    refine lv_iconst (v := 2) hx hb dL_law_33 (by decide) ?_
    refine lv_iload hx hb dL_law_34 (lv_at hl 0 rfl) ?_
    refine lv_imul hx hb dL_law_36 ?_
    rw [show (2 : Int32) * nI i = nI (2 * i) from pk_mul 2 i]
    refine cl_i (va_runS (As := [.ref b, .int (nI (2 * i))]) (rest := []) ⟨hx, hb, hml, hown, hts⟩ (c_L_cell l D hL (k := 2 * i) (by omega) H.size ex1) (va_cwS 2 hts gL_law_L_cell rfl rfl rfl (by decide +kernel) ⟨Nat.le_of_ble_eq_true rfl, Nat.le_of_ble_eq_true rfl⟩) ⟨blX, preX hX hbl hbA hS⟩ rfl rfl hl.1 rfl (lv_room (Nat.le_of_ble_eq_true rfl)) dL_law_37 ⟨(show cs ≤ 600130 by omega), (show sl ≤ 7301079 by omega)⟩) hP hD (List.Perm.refl _) hS hA (fun H locs hP hD hS => ?_)
    have hP : va_P D vwCl (wB cy ad V ++ wB cy bd V) H := vP_perm hP (List.Perm.refl _)
    have hD : va_D (fun q : Nat => s.heap.size ≤ q) (wB cy ad V ++ wB cy bd V) := vD_perm hD (List.Perm.refl _)
    refine lv_istore (lv' := [(5, .int (nI n1)), (4, .int (nI i)), (3, .int (1 : Int32)), (0, .ref b), (1, .ref (ad 0 0 0)), (2, .ref (bd 0 0 0))]) hx hb dL_law_40 hl (by decide) rfl (fun ls hl => ?_)
    refine lv_aload_n hx hb dL_law_42 rfl (lv_at hl 3 rfl) ?_
    refine lv_iconst (v := 2) hx hb dL_law_43 (by decide) ?_
    refine lv_iload hx hb dL_law_44 (lv_at hl 1 rfl) ?_
    refine lv_imul hx hb dL_law_46 ?_
    rw [show (2 : Int32) * nI i = nI (2 * i) from pk_mul 2 i]
    refine lv_iconst (v := 1) hx hb dL_law_47 (by decide) ?_
    refine lv_iadd hx hb dL_law_48 ?_
    rw [nI_1]
    refine cl_i (va_runS (As := [.ref b, .int (nI (2 * i + 1))]) (rest := []) ⟨hx, hb, hml, hown, hts⟩ (c_L_cell l D hL (k := 2 * i + 1) (by omega) H.size ex2) (va_cwS 2 hts gL_law_L_cell rfl rfl rfl (by decide +kernel) ⟨Nat.le_of_ble_eq_true rfl, Nat.le_of_ble_eq_true rfl⟩) ⟨blX, preX hX hbl hbA hS⟩ rfl rfl hl.1 rfl (lv_room (Nat.le_of_ble_eq_true rfl)) dL_law_49 ⟨(show cs ≤ 600130 by omega), (show sl ≤ 7301079 by omega)⟩) hP hD (List.Perm.refl _) hS hA (fun H locs hP hD hS => ?_)
    have hP : va_P D vwCl (wB cy ad V ++ wB cy bd V) H := vP_perm hP (List.Perm.refl _)
    have hD : va_D (fun q : Nat => s.heap.size ≤ q) (wB cy ad V ++ wB cy bd V) := vD_perm hD (List.Perm.refl _)
    refine lv_istore (lv' := [(6, .int (nI n2)), (5, .int (nI n1)), (4, .int (nI i)), (3, .int (1 : Int32)), (0, .ref b), (1, .ref (ad 0 0 0)), (2, .ref (bd 0 0 0))]) hx hb dL_law_52 hl (by decide) rfl (fun ls hl => ?_)
    refine lv_aload_n hx hb dL_law_54 rfl (lv_at hl 5 rfl) ?_
    refine lv_iload hx hb dL_law_55 (lv_at hl 1 rfl) ?_
    refine cl_i (va_runS (As := [.ref (ad 0 0 0), .int (nI n1)]) (rest := []) ⟨hx, hb, hml, hown, hts⟩ (c_L_refuses l hlt D cy ad hB (n := n1) rfl hn1 H.size) (va_cwS 2 hts gL_law_L_refuses rfl rfl rfl (by decide +kernel) ⟨Nat.le_of_ble_eq_true rfl, Nat.le_of_ble_eq_true rfl⟩) ⟨blU, preU hP hD (List.Perm.refl _) hK hE hS hA⟩ rfl rfl hl.1 rfl (lv_room (Nat.le_of_ble_eq_true rfl)) dL_law_57 ⟨(show (cs + 98) ≤ 600130 by omega), (show (sl + 588) ≤ 7301079 by omega)⟩) hP hD (List.Perm.refl _) hS hA (fun H locs hP hD hS => ?_)
    have hP : va_P D vwCl (wB cy ad V ++ wB cy bd V) H := vP_perm hP (List.Perm.refl _)
    have hD : va_D (fun q : Nat => s.heap.size ≤ q) (wB cy ad V ++ wB cy bd V) := vD_perm hD (List.Perm.refl _)
    refine lv_if_eq (tgt := 105) hx hb dL_law_60 (by decide) (fun c_4 => absurd c_4 (by decide)) (fun c_4 => ?_)
    refine lv_aload_n hx hb dL_law_63 rfl (lv_at hl 5 rfl) ?_
    refine lv_iload hx hb dL_law_64 (lv_at hl 1 rfl) ?_
    refine lv_iload hx hb dL_law_66 (lv_at hl 0 rfl) ?_
    refine cl_i (va_runS (As := [.ref (ad 0 0 0), .int (nI n1), .int (nI n2)]) (rest := []) ⟨hx, hb, hml, hown, hts⟩ (hact l hlt D cy ad H.size) (va_cwS 3 hts gL_law_L_act rfl rfl rfl (by decide +kernel) ⟨Nat.le_of_ble_eq_true rfl, Nat.le_of_ble_eq_true rfl⟩) ⟨blU, preU hP hD (List.Perm.refl _) hK hE hS hA⟩ rfl rfl hl.1 rfl (lv_room (Nat.le_of_ble_eq_true rfl)) dL_law_68 ⟨(show (cs + 113) ≤ 600130 by omega), (show (sl + 678) ≤ 7301079 by omega)⟩) hP hD (List.Perm.refl _) hS hA (fun H locs hP hD hS => ?_)
    have hP : va_P D vwCl (wB cy ad V1 ++ wB cy bd V) H := vP_perm hP (List.Perm.refl _)
    have hD : va_D (fun q : Nat => s.heap.size ≤ q) (wB cy ad V1 ++ wB cy bd V) := vD_perm hD (List.Perm.refl _)
    refine lv_aload_n hx hb dL_law_71 rfl (lv_at hl 6 rfl) ?_
    refine lv_iload hx hb dL_law_72 (lv_at hl 1 rfl) ?_
    refine lv_iload hx hb dL_law_74 (lv_at hl 0 rfl) ?_
    refine cl_i (va_runS (As := [.ref (bd 0 0 0), .int (nI n1), .int (nI n2)]) (rest := [.int ra]) ⟨hx, hb, hml, hown, hts⟩ (hact l hlt D cy bd H.size) (va_cwS 3 hts gL_law_L_act rfl rfl rfl (by decide +kernel) ⟨Nat.le_of_ble_eq_true rfl, Nat.le_of_ble_eq_true rfl⟩) ⟨blU, preU hP hD List.perm_append_comm hK hE hS hA⟩ rfl rfl hl.1 rfl (lv_room (Nat.le_of_ble_eq_true rfl)) dL_law_76 ⟨(show (cs + 128) ≤ 600130 by omega), (show (sl + 768) ≤ 7301079 by omega)⟩) hP hD List.perm_append_comm hS hA (fun H locs hP hD hS => ?_)
    have hP : va_P D vwCl (wB cy ad V1 ++ wB cy bd V1) H := vP_perm hP List.perm_append_comm
    have hD : va_D (fun q : Nat => s.heap.size ≤ q) (wB cy ad V1 ++ wB cy bd V1) := vD_perm hD List.perm_append_comm
    refine lv_icmp_ne (tgt := 105) hx hb dL_law_79 (by decide) (fun c_5 => absurd rfl c_5) (fun c_5 => ?_)
    refine lv_aload_n hx hb dL_law_82 rfl (lv_at hl 5 rfl) ?_
    refine lv_iload hx hb dL_law_83 (lv_at hl 0 rfl) ?_
    refine cl_i (va_runS (As := [.ref (ad 0 0 0), .int (nI n2)]) (rest := []) ⟨hx, hb, hml, hown, hts⟩ (c_L_refuses l hlt D cy ad hB1 (n := n2) rfl hn2 H.size) (va_cwS 2 hts gL_law_L_refuses rfl rfl rfl (by decide +kernel) ⟨Nat.le_of_ble_eq_true rfl, Nat.le_of_ble_eq_true rfl⟩) ⟨blU, preU hP hD (List.Perm.refl _) hK hE hS hA⟩ rfl rfl hl.1 rfl (lv_room (Nat.le_of_ble_eq_true rfl)) dL_law_85 ⟨(show (cs + 226) ≤ 600130 by omega), (show (sl + 1356) ≤ 7301079 by omega)⟩) hP hD (List.Perm.refl _) hS hA (fun H locs hP hD hS => ?_)
    have hP : va_P D vwCl (wB cy ad V1 ++ wB cy bd V1) H := vP_perm hP (List.Perm.refl _)
    have hD : va_D (fun q : Nat => s.heap.size ≤ q) (wB cy ad V1 ++ wB cy bd V1) := vD_perm hD (List.Perm.refl _)
    refine lv_if_eq (tgt := 105) hx hb dL_law_88 (by decide) (fun c_6 => absurd c_6 (by decide)) (fun c_6 => ?_)
    refine lv_aload_n hx hb dL_law_91 rfl (lv_at hl 5 rfl) ?_
    refine lv_aload_n hx hb dL_law_92 rfl (lv_at hl 6 rfl) ?_
    refine lv_iload hx hb dL_law_93 (lv_at hl 1 rfl) ?_
    refine cl_q (va_runS (As := [.ref (ad 0 0 0), .ref (bd 0 0 0), .int (nI n1)]) (rest := []) ⟨hx, hb, hml, hown, hts⟩ (c_L_alike l hlt D cy ad bd hB1 (nI n1) H.size) (va_cwS 3 hts gL_law_L_alike rfl rfl rfl (by decide +kernel) ⟨Nat.le_of_ble_eq_true rfl, Nat.le_of_ble_eq_true rfl⟩) ⟨blU, preU hP hD (pmI _) hK hE hS hA⟩ rfl rfl hl.1 rfl (lv_room (Nat.le_of_ble_eq_true rfl)) dL_law_95 ⟨(show (cs + 1006) ≤ 600130 by omega), (show (sl + 6036) ≤ 7301079 by omega)⟩) hP hD (pmI _) hS hA (fun V2 H locs hB2 hP hD hS => ?_)
    have hP : va_P D vwCl (wB cy ad V2 ++ wB cy bd V2) H := vP_perm hP (pmI _).symm
    have hD : va_D (fun q : Nat => s.heap.size ≤ q) (wB cy ad V2 ++ wB cy bd V2) := vD_perm hD (pmI _).symm
    refine lv_if_eq (tgt := 105) hx hb dL_law_98 (by decide) (fun c_7 => absurd c_7 (by decide)) (fun c_7 => ?_)
    refine lv_iconst (v := 1) hx hb dL_law_101 (by decide) ?_
    refine lv_goto (tgt := 106) hx hb dL_law_102 (by decide) ?_
    refine lv_istore_n (lv' := [(3, .int (1 : Int32)), (6, .int (nI n2)), (5, .int (nI n1)), (4, .int (nI i)), (0, .ref b), (1, .ref (ad 0 0 0)), (2, .ref (bd 0 0 0))]) hx hb dL_law_106 rfl hl (by decide) rfl (fun ls hl => ?_)
    refine lv_iload hx hb dL_law_107 (lv_at hl 3 rfl) ?_
    refine lv_iconst (v := 3) hx hb dL_law_109 (by decide) ?_
    refine lv_irem hx hb dL_law_110 (by decide) ?_
    refine lv_iconst (v := 2) hx hb dL_law_111 (by decide) ?_
    have e3 : nI i - nI i / (3 : Int32) * (3 : Int32) = nI (i % 3) := rm_of rfl (by omega) rfl (by decide) (by decide)
    by_cases h3 : i % 3 = 2
    · obtain ⟨V3, hB3, hho⟩ := holds_ok hB2 (by omega) (x := (nI n2)) (n := n2) rfl hn2
      refine lv_icmp_ne (tgt := 238) hx hb dL_law_112 (by decide) (fun c_8 => absurd (by rw [e3, h3]; rfl) c_8) (fun c_8 => ?_)
      refine lv_iload_n hx hb dL_law_115 rfl (lv_at hl 0 rfl) ?_
      refine lv_if_eq (tgt := 238) hx hb dL_law_116 (by decide) (fun c_9 => absurd c_9 (by decide)) (fun c_9 => ?_)
      refine lv_aload_n hx hb dL_law_119 rfl (lv_at hl 5 rfl) ?_
      refine lv_iload hx hb dL_law_120 (lv_at hl 1 rfl) ?_
      refine cl_i (va_runS (As := [.ref (ad 0 0 0), .int (nI n2)]) (rest := []) ⟨hx, hb, hml, hown, hts⟩ (hho l hlt D cy ad H.size) (va_cwS 2 hts gL_law_L_holds rfl rfl rfl (by decide +kernel) ⟨Nat.le_of_ble_eq_true rfl, Nat.le_of_ble_eq_true rfl⟩) ⟨blU, preU hP hD (List.Perm.refl _) hK hE hS hA⟩ rfl rfl hl.1 rfl (lv_room (Nat.le_of_ble_eq_true rfl)) dL_law_122 ⟨(show (cs + 2676) ≤ 600130 by omega), (show (sl + 16056) ≤ 7301079 by omega)⟩) hP hD (List.Perm.refl _) hS hA (fun H locs hP hD hS => ?_)
      have hP : va_P D vwCl (wB cy ad V3 ++ wB cy bd V2) H := vP_perm hP (List.Perm.refl _)
      have hD : va_D (fun q : Nat => s.heap.size ≤ q) (wB cy ad V3 ++ wB cy bd V2) := vD_perm hD (List.Perm.refl _)
      refine lv_if_eq (tgt := 141) hx hb dL_law_125 (by decide) (fun c_10 => absurd c_10 (by decide)) (fun c_10 => ?_)
      refine lv_aload_n hx hb dL_law_128 rfl (lv_at hl 6 rfl) ?_
      refine lv_iload hx hb dL_law_129 (lv_at hl 1 rfl) ?_
      refine cl_i (va_runS (As := [.ref (bd 0 0 0), .int (nI n2)]) (rest := []) ⟨hx, hb, hml, hown, hts⟩ (hho l hlt D cy bd H.size) (va_cwS 2 hts gL_law_L_holds rfl rfl rfl (by decide +kernel) ⟨Nat.le_of_ble_eq_true rfl, Nat.le_of_ble_eq_true rfl⟩) ⟨blU, preU hP hD List.perm_append_comm hK hE hS hA⟩ rfl rfl hl.1 rfl (lv_room (Nat.le_of_ble_eq_true rfl)) dL_law_131 ⟨(show (cs + 4346) ≤ 600130 by omega), (show (sl + 26076) ≤ 7301079 by omega)⟩) hP hD List.perm_append_comm hS hA (fun H locs hP hD hS => ?_)
      have hP : va_P D vwCl (wB cy ad V3 ++ wB cy bd V3) H := vP_perm hP List.perm_append_comm
      have hD : va_D (fun q : Nat => s.heap.size ≤ q) (wB cy ad V3 ++ wB cy bd V3) := vD_perm hD List.perm_append_comm
      refine lv_if_eq (tgt := 141) hx hb dL_law_134 (by decide) (fun c_11 => absurd c_11 (by decide)) (fun c_11 => ?_)
      refine lv_iconst (v := 1) hx hb dL_law_137 (by decide) ?_
      refine lv_goto (tgt := 142) hx hb dL_law_138 (by decide) ?_
      refine lv_istore_n (lv' := [(3, .int (1 : Int32)), (6, .int (nI n2)), (5, .int (nI n1)), (4, .int (nI i)), (0, .ref b), (1, .ref (ad 0 0 0)), (2, .ref (bd 0 0 0))]) hx hb dL_law_142 rfl hl (by decide) rfl (fun ls hl => ?_)
      refine lv_iload hx hb dL_law_143 (lv_at hl 2 rfl) ?_
      refine lv_i2l (v := (nI n1).toInt64) hx hb dL_law_145 rfl ?_
      refine lv_ldc2 (v := (3434264695)) hx hb hown (hts _ (List.mem_of_getElem? (i := 3) rfl)) dL_law_146 ?_
      refine lv_lmul hx hb dL_law_149 ?_
      refine lv_ldc2 (v := (821)) hx hb hown (hts _ (List.mem_of_getElem? (i := 4) rfl)) dL_law_150 ?_
      refine lv_lsub hx hb dL_law_153 ?_
      refine lv_lstore (lv' := [(7, .long (((nI n1).toInt64 * (3434264695 : Int64)) - (821 : Int64))), (3, .int (1 : Int32)), (6, .int (nI n2)), (5, .int (nI n1)), (4, .int (nI i)), (0, .ref b), (1, .ref (ad 0 0 0)), (2, .ref (bd 0 0 0))]) hx hb dL_law_154 hl (by decide) rfl (fun ls hl => ?_)
      refine lv_aload_n hx hb dL_law_156 rfl (lv_at hl 6 rfl) ?_
      refine lv_lload hx hb dL_law_157 (lv_at hl 0 rfl) ?_
      refine lv_iconst (v := 1) hx hb dL_law_159 (by decide) ?_
      refine lv_iload hx hb dL_law_160 (lv_at hl 2 rfl) ?_
      refine lv_sipush (v := 300) hx hb dL_law_162 (by decide) ?_
      refine lv_irem hx hb dL_law_165 (by decide) ?_
      refine lv_iadd hx hb dL_law_166 ?_
      obtain ⟨V4, hV4⟩ : ∃ V9, w_X5_simulate V3 (((nI n1).toInt64 * (3434264695 : Int64)) - (821 : Int64)) ((1 : Int32) + ((nI n2) - (nI n2) / (300 : Int32) * (300 : Int32))) = V9 := ⟨_, rfl⟩
      have hB4 : BInv (1000 * i + 300 + 310) V4 := by rw [← hV4]; exact hB3.sim _ _
      refine cl_i (vx_runSW (As := [.ref (ad 0 0 0), .long (((nI n1).toInt64 * (3434264695 : Int64)) - (821 : Int64)), .int ((1 : Int32) + ((nI n2) - (nI n2) / (300 : Int32) * (300 : Int32)))]) (rest := []) ⟨hx, hb, hml, hown, hts⟩ (ccs l hlt D cy ad (V := V3) (V' := V4) hB3 (((nI n1).toInt64 * (3434264695 : Int64)) - (821 : Int64)) ((1 : Int32) + ((nI n2) - (nI n2) / (300 : Int32) * (300 : Int32))) rfl hV4 H.size) (vx_cwSW 3 hts gL_law_L_trySimulate rfl rfl rfl (by decide +kernel) ⟨Nat.le_of_ble_eq_true rfl, Nat.le_of_ble_eq_true rfl⟩) ⟨blU, preU hP hD (List.Perm.refl _) hK hE hS hA⟩ rfl rfl hl.1 rfl (lv_room (Nat.le_of_ble_eq_true rfl)) dL_law_167 ⟨(show (cs + 4347) ≤ 600130 by omega), (show (sl + 26082) ≤ 7301079 by omega)⟩) hP hD (List.Perm.refl _) hS hA (fun H locs hP hD hS => ?_)
      have hP : va_P D vwCl (wB cy ad V4 ++ wB cy bd V3) H := vP_perm hP (List.Perm.refl _)
      have hD : va_D (fun q : Nat => s.heap.size ≤ q) (wB cy ad V4 ++ wB cy bd V3) := vD_perm hD (List.Perm.refl _)
      refine lv_istore (lv' := [(9, .int (r_L_trySimulate V3 (((nI n1).toInt64 * (3434264695 : Int64)) - (821 : Int64)) ((1 : Int32) + ((nI n2) - (nI n2) / (300 : Int32) * (300 : Int32))))), (7, .long (((nI n1).toInt64 * (3434264695 : Int64)) - (821 : Int64))), (3, .int (1 : Int32)), (6, .int (nI n2)), (5, .int (nI n1)), (4, .int (nI i)), (0, .ref b), (1, .ref (ad 0 0 0)), (2, .ref (bd 0 0 0))]) hx hb dL_law_170 hl (by decide) rfl (fun ls hl => ?_)
      refine lv_iload_n hx hb dL_law_172 rfl (lv_at hl 2 rfl) ?_
      refine lv_if_eq (tgt := 236) hx hb dL_law_173 (by decide) (fun c_12 => absurd c_12 (by decide)) (fun c_12 => ?_)
      refine lv_iload hx hb dL_law_176 (lv_at hl 0 rfl) ?_
      refine lv_aload_n hx hb dL_law_178 rfl (lv_at hl 8 rfl) ?_
      refine lv_lload hx hb dL_law_179 (lv_at hl 1 rfl) ?_
      refine lv_iconst (v := 1) hx hb dL_law_181 (by decide) ?_
      refine lv_iload hx hb dL_law_182 (lv_at hl 3 rfl) ?_
      refine lv_sipush (v := 300) hx hb dL_law_184 (by decide) ?_
      refine lv_irem hx hb dL_law_187 (by decide) ?_
      refine lv_iadd hx hb dL_law_188 ?_
      refine cl_i (vx_runSW (As := [.ref (bd 0 0 0), .long (((nI n1).toInt64 * (3434264695 : Int64)) - (821 : Int64)), .int ((1 : Int32) + ((nI n2) - (nI n2) / (300 : Int32) * (300 : Int32)))]) (rest := [.int (r_L_trySimulate V3 (((nI n1).toInt64 * (3434264695 : Int64)) - (821 : Int64)) ((1 : Int32) + ((nI n2) - (nI n2) / (300 : Int32) * (300 : Int32))))]) ⟨hx, hb, hml, hown, hts⟩ (ccs l hlt D cy bd (V := V3) (V' := V4) hB3 (((nI n1).toInt64 * (3434264695 : Int64)) - (821 : Int64)) ((1 : Int32) + ((nI n2) - (nI n2) / (300 : Int32) * (300 : Int32))) rfl hV4 H.size) (vx_cwSW 3 hts gL_law_L_trySimulate rfl rfl rfl (by decide +kernel) ⟨Nat.le_of_ble_eq_true rfl, Nat.le_of_ble_eq_true rfl⟩) ⟨blU, preU hP hD List.perm_append_comm hK hE hS hA⟩ rfl rfl hl.1 rfl (lv_room (Nat.le_of_ble_eq_true rfl)) dL_law_189 ⟨(show (cs + 4348) ≤ 600130 by omega), (show (sl + 26088) ≤ 7301079 by omega)⟩) hP hD List.perm_append_comm hS hA (fun H locs hP hD hS => ?_)
      have hP : va_P D vwCl (wB cy ad V4 ++ wB cy bd V4) H := vP_perm hP List.perm_append_comm
      have hD : va_D (fun q : Nat => s.heap.size ≤ q) (wB cy ad V4 ++ wB cy bd V4) := vD_perm hD List.perm_append_comm
      refine lv_icmp_ne (tgt := 236) hx hb dL_law_192 (by decide) (fun c_13 => absurd rfl c_13) (fun c_13 => ?_)
      refine lv_aload_n hx hb dL_law_195 rfl (lv_at hl 7 rfl) ?_
      refine lv_iconst (v := 2) hx hb dL_law_196 (by decide) ?_
      refine lv_iload hx hb dL_law_197 (lv_at hl 3 rfl) ?_
      refine lv_i2l (v := (nI n2).toInt64) hx hb dL_law_199 rfl ?_
      refine lv_ldc2 (v := (4)) hx hb hown (hts _ (List.mem_of_getElem? (i := 5) rfl)) dL_law_200 ?_
      refine lv_lmul hx hb dL_law_203 ?_
      obtain ⟨V5, hV5⟩ : ∃ V9, w_X5_runScript V4 (2 : Int32) ((nI n2).toInt64 * (4 : Int64)) = V9 := ⟨_, rfl⟩
      have hB5 : BInv (1000 * i + 300 + 310) V5 := by rw [← hV5]; exact hB4.script _ _
      refine cl_i (vx_runSW (As := [.ref (ad 0 0 0), .int (2 : Int32), .long ((nI n2).toInt64 * (4 : Int64))]) (rest := []) ⟨hx, hb, hml, hown, hts⟩ (cct l hlt D cy ad (V := V4) (V' := V5) hB4 (2 : Int32) ((nI n2).toInt64 * (4 : Int64)) rfl hV5 H.size) (vx_cwSW 3 hts gL_law_L_tryScript rfl rfl rfl (by decide +kernel) ⟨Nat.le_of_ble_eq_true rfl, Nat.le_of_ble_eq_true rfl⟩) ⟨blU, preU hP hD (List.Perm.refl _) hK hE hS hA⟩ rfl rfl hl.1 rfl (lv_room (Nat.le_of_ble_eq_true rfl)) dL_law_204 ⟨(show (cs + 4349) ≤ 600130 by omega), (show (sl + 26094) ≤ 7301079 by omega)⟩) hP hD (List.Perm.refl _) hS hA (fun H locs hP hD hS => ?_)
      have hP : va_P D vwCl (wB cy ad V5 ++ wB cy bd V4) H := vP_perm hP (List.Perm.refl _)
      have hD : va_D (fun q : Nat => s.heap.size ≤ q) (wB cy ad V5 ++ wB cy bd V4) := vD_perm hD (List.Perm.refl _)
      refine lv_aload_n hx hb dL_law_207 rfl (lv_at hl 8 rfl) ?_
      refine lv_iconst (v := 2) hx hb dL_law_208 (by decide) ?_
      refine lv_iload hx hb dL_law_209 (lv_at hl 3 rfl) ?_
      refine lv_i2l (v := (nI n2).toInt64) hx hb dL_law_211 rfl ?_
      refine lv_ldc2 (v := (4)) hx hb hown (hts _ (List.mem_of_getElem? (i := 5) rfl)) dL_law_212 ?_
      refine lv_lmul hx hb dL_law_215 ?_
      refine cl_i (vx_runSW (As := [.ref (bd 0 0 0), .int (2 : Int32), .long ((nI n2).toInt64 * (4 : Int64))]) (rest := [.int (r_L_tryScript V4 (2 : Int32) ((nI n2).toInt64 * (4 : Int64)))]) ⟨hx, hb, hml, hown, hts⟩ (cct l hlt D cy bd (V := V4) (V' := V5) hB4 (2 : Int32) ((nI n2).toInt64 * (4 : Int64)) rfl hV5 H.size) (vx_cwSW 3 hts gL_law_L_tryScript rfl rfl rfl (by decide +kernel) ⟨Nat.le_of_ble_eq_true rfl, Nat.le_of_ble_eq_true rfl⟩) ⟨blU, preU hP hD List.perm_append_comm hK hE hS hA⟩ rfl rfl hl.1 rfl (lv_room (Nat.le_of_ble_eq_true rfl)) dL_law_216 ⟨(show (cs + 4350) ≤ 600130 by omega), (show (sl + 26100) ≤ 7301079 by omega)⟩) hP hD List.perm_append_comm hS hA (fun H locs hP hD hS => ?_)
      have hP : va_P D vwCl (wB cy ad V5 ++ wB cy bd V5) H := vP_perm hP List.perm_append_comm
      have hD : va_D (fun q : Nat => s.heap.size ≤ q) (wB cy ad V5 ++ wB cy bd V5) := vD_perm hD List.perm_append_comm
      refine lv_icmp_ne (tgt := 236) hx hb dL_law_219 (by decide) (fun c_14 => absurd rfl c_14) (fun c_14 => ?_)
      refine lv_aload_n hx hb dL_law_222 rfl (lv_at hl 7 rfl) ?_
      refine lv_aload_n hx hb dL_law_223 rfl (lv_at hl 8 rfl) ?_
      refine lv_iload hx hb dL_law_224 (lv_at hl 3 rfl) ?_
      refine cl_q (va_runS (As := [.ref (ad 0 0 0), .ref (bd 0 0 0), .int (nI n2)]) (rest := []) ⟨hx, hb, hml, hown, hts⟩ (c_L_alike l hlt D cy ad bd hB5 (nI n2) H.size) (va_cwS 3 hts gL_law_L_alike rfl rfl rfl (by decide +kernel) ⟨Nat.le_of_ble_eq_true rfl, Nat.le_of_ble_eq_true rfl⟩) ⟨blU, preU hP hD (pmI _) hK hE hS hA⟩ rfl rfl hl.1 rfl (lv_room (Nat.le_of_ble_eq_true rfl)) dL_law_226 ⟨(show (cs + 5130) ≤ 600130 by omega), (show (sl + 30780) ≤ 7301079 by omega)⟩) hP hD (pmI _) hS hA (fun V6 H locs hB6 hP hD hS => ?_)
      have hP : va_P D vwCl (wB cy ad V6 ++ wB cy bd V6) H := vP_perm hP (pmI _).symm
      have hD : va_D (fun q : Nat => s.heap.size ≤ q) (wB cy ad V6 ++ wB cy bd V6) := vD_perm hD (pmI _).symm
      refine lv_if_eq (tgt := 236) hx hb dL_law_229 (by decide) (fun c_15 => absurd c_15 (by decide)) (fun c_15 => ?_)
      refine lv_iconst (v := 1) hx hb dL_law_232 (by decide) ?_
      refine lv_goto (tgt := 237) hx hb dL_law_233 (by decide) ?_
      refine lv_istore_n (lv' := [(3, .int (1 : Int32)), (9, .int (r_L_trySimulate V3 (((nI n1).toInt64 * (3434264695 : Int64)) - (821 : Int64)) ((1 : Int32) + ((nI n2) - (nI n2) / (300 : Int32) * (300 : Int32))))), (7, .long (((nI n1).toInt64 * (3434264695 : Int64)) - (821 : Int64))), (6, .int (nI n2)), (5, .int (nI n1)), (4, .int (nI i)), (0, .ref b), (1, .ref (ad 0 0 0)), (2, .ref (bd 0 0 0))]) hx hb dL_law_237 rfl hl (by decide) rfl (fun ls hl => ?_)
      refine W.widen (k := (cs + 5130)) (n := (sl + 30780)) (by omega) (by omega) ?_
      exact j238 V6 (hB6.mono (by omega)) H locs hP hD hS ls (lv_sub hl [0, 5, 6, 7, 8] rfl)
    · refine lv_icmp_ne (tgt := 238) hx hb dL_law_112 (by decide) (fun c_16 => ?_) (fun c_16 => absurd c_16 (by rw [e3]; exact fun q9 => h3 ((nI_eq (by omega) (by decide)).mp (show nI (i % 3) = nI 2 from q9))))
      refine W.widen (k := (cs + 5130)) (n := (sl + 30780)) (by omega) (by omega) ?_
      exact j238 V2 (hB2.mono (by omega)) H locs hP hD hS ls (lv_sub hl [0, 3, 4, 5, 6] rfl)
set_option maxHeartbeats 8000000 in
set_option maxRecDepth 100000 in
/-- the law, from its entry -/
theorem whole_start {p : Program} {e : Env} {s : State} {m : MethodId} {below : List Frame} {meth : Method} {c : Code} (l : Launch) (hflags : l.flags = flags0) {b L : Nat} {xs : Nat → Int32} (hL : L ≤ 260) (C0 : lw_At p s m meth c b L xs) : W p l e room_1 s m #[Value.ref b] below meth c s.heap [] 0 0 (lw_Z below #[Value.ref b] s) (entryFrame m ([Value.ref b] : List Value).toArray 10) := by
  have hlt : l.stackTraces = false := by
    unfold Launch.stackTraces
    rw [hflags]
    decide +kernel
  obtain ⟨hx, hb, hr, hml, hown, hts0, hX, hbl, hlocks, hgv⟩ := id C0
  have hts : ∀ w ∈ wsL_law, w.before #[Value.ref b] s = true := fun w h => hts0 w (wsL_law_in w h)
  have hb : c.code = cL_law := hb
  have hown : s.vm.findClass RL = some m.cls := hown
  have hA : ∀ q : Nat, s.heap.size ≤ q → (fun q : Nat => s.heap.size ≤ q) q := fun _ h => h
  obtain ⟨D, cy, hK⟩ := k_start hts0
  have hE : Ev (fun q : Nat => s.heap.size ≤ q) s s.heap := ev_start hts0 hgv (fun a ha => Nat.not_le.mpr ha)
  have hS : va_S (fun q : Nat => s.heap.size ≤ q) s.heap s.heap [] := va_S.rf
  have hP : va_P D vwCl [] s.heap := fun k q h => by simp at h
  have hD : va_D (fun q : Nat => s.heap.size ≤ q) [] := ⟨fun i j p q h => by simp at h, fun k q h => by simp at h⟩
  have hl := lv_entry ([.ref b]) (n := 10) (Nat.le_of_ble_eq_true rfl)
  rw [lg_entry_eq]
  generalize (lg_sl ([.ref b]) ++ List.replicate (10 - (lg_sl ([.ref b])).length) Slot.unset).toArray = ls at hl ⊢
  have hl : lv_has ls 10 [(0, .ref b)] := hl
  refine va_new (ci := 4) (fs := [.null, .null, .null, .null, .null, .null]) (C := RX5) (T := TX5) (N := 6) hx hb hts inlX5 tyX5 tyX5_ok hown (hts _ (List.mem_of_getElem? (i := 0) rfl)) (hts _ (List.mem_of_getElem? (i := 1) rfl)) (hts _ (List.mem_of_getElem? (i := 2) rfl)) hK hP hD hS hA rfl (fun j hj => by rcases (show j = 0 ∨ j = 1 ∨ j = 2 ∨ j = 3 ∨ j = 4 ∨ j = 5 by omega) with rfl | rfl | rfl | rfl | rfl | rfl <;> rfl) (Nat.le_of_ble_eq_true rfl) (Nat.le_of_ble_eq_true rfl) dL_law_0 (fun q0 H hP hD hS => ?_)
  have hP : va_P D vwCl [(q0, .inr (4, [.null, .null, .null, .null, .null, .null]))] H := hP
  have hD : va_D (fun q : Nat => s.heap.size ≤ q) [(q0, .inr (4, [.null, .null, .null, .null, .null, .null]))] := hD
  refine lv_dup hx hb dL_law_3 rfl ?_
  refine cl_e (va_runI (As := []) (rest := [.ref q0]) ⟨hx, hb, hml, hown, hts⟩ (c_X5_init l D cy q0 H.size) (cwI 0 hts gL_law_X5_init rfl rfl rfl (hts _ (List.mem_of_getElem? (i := 2) rfl)) (hts _ (List.mem_of_getElem? (i := 6) rfl)) (hts _ (List.mem_of_getElem? (i := 7) rfl)) rfl (by decide +kernel) ⟨Nat.le_of_ble_eq_true rfl, Nat.le_of_ble_eq_true rfl⟩) ⟨blU, preU hP hD (pmI _) hK hE hS hA⟩ rfl rfl hl.1 rfl (lv_room (Nat.le_of_ble_eq_true rfl)) dL_law_4 ⟨Nat.le_of_ble_eq_true rfl, Nat.le_of_ble_eq_true rfl⟩) hP hD (pmI _) hS hA (fun ad H locs hu hPn hDn hS => ?_)
  have hu : ad 0 0 0 = q0 := hu
  subst hu
  have hP : va_P D vwCl (wB cy ad bI) H := vP_perm hPn (pmI _).symm
  have hD : va_D (fun q : Nat => s.heap.size ≤ q) (wB cy ad bI) := vD_perm hDn (pmI _).symm
  refine lv_astore_n (lv' := [(1, .ref (ad 0 0 0)), (0, .ref b)]) hx hb dL_law_7 rfl hl (by decide) rfl (fun ls hl => ?_)
  refine va_new (ci := 4) (fs := [.null, .null, .null, .null, .null, .null]) (C := RX5) (T := TX5) (N := 6) hx hb hts inlX5 tyX5 tyX5_ok hown (hts _ (List.mem_of_getElem? (i := 0) rfl)) (hts _ (List.mem_of_getElem? (i := 1) rfl)) (hts _ (List.mem_of_getElem? (i := 2) rfl)) hK hP hD hS hA rfl (fun j hj => by rcases (show j = 0 ∨ j = 1 ∨ j = 2 ∨ j = 3 ∨ j = 4 ∨ j = 5 by omega) with rfl | rfl | rfl | rfl | rfl | rfl <;> rfl) (Nat.le_of_ble_eq_true rfl) (Nat.le_of_ble_eq_true rfl) dL_law_8 (fun q1 H hP hD hS => ?_)
  have hP : va_P D vwCl (wB cy ad bI ++ [(q1, .inr (4, [.null, .null, .null, .null, .null, .null]))]) H := hP
  have hD : va_D (fun q : Nat => s.heap.size ≤ q) (wB cy ad bI ++ [(q1, .inr (4, [.null, .null, .null, .null, .null, .null]))]) := hD
  refine lv_dup hx hb dL_law_11 rfl ?_
  refine cl_e (va_runI (As := []) (rest := [.ref q1]) ⟨hx, hb, hml, hown, hts⟩ (c_X5_init l D cy q1 H.size) (cwI 0 hts gL_law_X5_init rfl rfl rfl (hts _ (List.mem_of_getElem? (i := 2) rfl)) (hts _ (List.mem_of_getElem? (i := 6) rfl)) (hts _ (List.mem_of_getElem? (i := 7) rfl)) rfl (by decide +kernel) ⟨Nat.le_of_ble_eq_true rfl, Nat.le_of_ble_eq_true rfl⟩) ⟨blU, preU hP hD (List.perm_append_comm (l₁ := (wB cy ad bI : va_W)) (l₂ := ([(q1, .inr (4, [.null, .null, .null, .null, .null, .null]))] : va_W))) hK hE hS hA⟩ rfl rfl hl.1 rfl (lv_room (Nat.le_of_ble_eq_true rfl)) dL_law_12 ⟨Nat.le_of_ble_eq_true rfl, Nat.le_of_ble_eq_true rfl⟩) hP hD (List.perm_append_comm (l₁ := (wB cy ad bI : va_W)) (l₂ := ([(q1, .inr (4, [.null, .null, .null, .null, .null, .null]))] : va_W))) hS hA (fun bd H locs hu hPn hDn hS => ?_)
  have hu : bd 0 0 0 = q1 := hu
  subst hu
  have hP : va_P D vwCl (wB cy ad bI ++ wB cy bd bI) H := vP_perm hPn (List.perm_append_comm (l₁ := (wB cy bd bI : va_W)) (l₂ := (wB cy ad bI : va_W)))
  have hD : va_D (fun q : Nat => s.heap.size ≤ q) (wB cy ad bI ++ wB cy bd bI) := vD_perm hDn (List.perm_append_comm (l₁ := (wB cy bd bI : va_W)) (l₂ := (wB cy ad bI : va_W)))
  refine lv_astore_n (lv' := [(2, .ref (bd 0 0 0)), (1, .ref (ad 0 0 0)), (0, .ref b)]) hx hb dL_law_15 rfl hl (by decide) rfl (fun ls hl => ?_)
  refine lv_iconst (v := 1) hx hb dL_law_16 (by decide) ?_
  refine lv_istore_n (lv' := [(3, .int 1), (2, .ref (bd 0 0 0)), (1, .ref (ad 0 0 0)), (0, .ref b)]) hx hb dL_law_17 rfl hl (by decide) rfl (fun ls hl => ?_)
  refine lv_iconst (v := 0) hx hb dL_law_18 (by decide) ?_
  refine lv_istore (lv' := [(4, .int 0), (3, .int 1), (2, .ref (bd 0 0 0)), (1, .ref (ad 0 0 0)), (0, .ref b)]) hx hb dL_law_19 hl (by decide) rfl (fun ls hl => ?_)
  refine W.widen (k := 774) (n := 26254) (Nat.le_of_ble_eq_true rfl) (Nat.le_of_ble_eq_true rfl) ?_
  exact law_loop hlt hL C0 hK hE ad bd 28 0 774 26254 bI BInv.start (by omega) (by omega) (by omega) H locs hP hD hS ls (lv_sub hl [0, 1, 4, 3, 2] rfl)
