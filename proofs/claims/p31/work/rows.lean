section
/-! ===== pasted: kit/laws/SKELETON PART A and claim/NAMES.whole.lean.txt (printed by program), the pool rows left out ===== -/
-- ===== PART A: goes FIRST, ahead of the names: the tables' words, and 'selects' of the private methods out of them =====
/-- a private method of a class that the tables say can be made, by its rows of tables_1 -/
def lw_okq (q : MethodName × Nat) : Prop := (q.1.cls ≠ "java/lang/invoke/MethodHandle" ∧ q.1.cls ≠ "java/lang/invoke/VarHandle") ∧ Cond.instantiable q.1.cls q.2 ∈ tables_1 ∧ Cond.privateMethod q.1 ∈ tables_1 ∧ Cond.instanceMethod q.1 ∈ tables_1
theorem lw_p0 : lw_okq (⟨"java/lang/Throwable", "fillInStackTrace", "(I)Ljava/lang/Throwable;"⟩, 6) := ⟨⟨by decide +kernel, by decide +kernel⟩, List.mem_of_getElem? (i := 257) (by decide +kernel), List.mem_of_getElem? (i := 255) (by decide +kernel), List.mem_of_getElem? (i := 256) (by decide +kernel)⟩
theorem lw_p1 : lw_okq (⟨"BranchNotes$State", "deskSays", "(II)Z"⟩, 11) := ⟨⟨by decide +kernel, by decide +kernel⟩, List.mem_of_getElem? (i := 61) (by decide +kernel), List.mem_of_getElem? (i := 317) (by decide +kernel), List.mem_of_getElem? (i := 318) (by decide +kernel)⟩
theorem lw_p2 : lw_okq (⟨"BranchNotes$State", "countGuess", "(IZZ)V"⟩, 11) := ⟨⟨by decide +kernel, by decide +kernel⟩, List.mem_of_getElem? (i := 61) (by decide +kernel), List.mem_of_getElem? (i := 329) (by decide +kernel), List.mem_of_getElem? (i := 330) (by decide +kernel)⟩
theorem lw_p3 : lw_okq (⟨"BranchNotes$State", "moveChooser", "(IZ)V"⟩, 11) := ⟨⟨by decide +kernel, by decide +kernel⟩, List.mem_of_getElem? (i := 61) (by decide +kernel), List.mem_of_getElem? (i := 336) (by decide +kernel), List.mem_of_getElem? (i := 337) (by decide +kernel)⟩
theorem lw_p4 : lw_okq (⟨"BranchNotes", "checkNote", "(I)V"⟩, 6) := ⟨⟨by decide +kernel, by decide +kernel⟩, List.mem_of_getElem? (i := 17) (by decide +kernel), List.mem_of_getElem? (i := 516) (by decide +kernel), List.mem_of_getElem? (i := 517) (by decide +kernel)⟩
theorem lw_p5 : lw_okq (⟨"BranchNotes$Text", "readCharacter", "(I)Z"⟩, 8) := ⟨⟨by decide +kernel, by decide +kernel⟩, List.mem_of_getElem? (i := 25) (by decide +kernel), List.mem_of_getElem? (i := 613) (by decide +kernel), List.mem_of_getElem? (i := 614) (by decide +kernel)⟩
theorem lw_p6 : lw_okq (⟨"BranchNotes$Text", "readSign", "(I)Z"⟩, 8) := ⟨⟨by decide +kernel, by decide +kernel⟩, List.mem_of_getElem? (i := 25) (by decide +kernel), List.mem_of_getElem? (i := 617) (by decide +kernel), List.mem_of_getElem? (i := 618) (by decide +kernel)⟩
theorem lw_p7 : lw_okq (⟨"BranchNotes$Text", "readDigit", "(I)Z"⟩, 8) := ⟨⟨by decide +kernel, by decide +kernel⟩, List.mem_of_getElem? (i := 25) (by decide +kernel), List.mem_of_getElem? (i := 621) (by decide +kernel), List.mem_of_getElem? (i := 622) (by decide +kernel)⟩
theorem lw_p8 : lw_okq (⟨"BranchNotes$Text", "repeatFrom", "(II)V"⟩, 8) := ⟨⟨by decide +kernel, by decide +kernel⟩, List.mem_of_getElem? (i := 25) (by decide +kernel), List.mem_of_getElem? (i := 625) (by decide +kernel), List.mem_of_getElem? (i := 626) (by decide +kernel)⟩
theorem lw_p9 : lw_okq (⟨"BranchNotes$Text", "readItem", "(I)Z"⟩, 8) := ⟨⟨by decide +kernel, by decide +kernel⟩, List.mem_of_getElem? (i := 25) (by decide +kernel), List.mem_of_getElem? (i := 629) (by decide +kernel), List.mem_of_getElem? (i := 630) (by decide +kernel)⟩
theorem lw_p10 : lw_okq (⟨"BranchNotes", "bestSetting", "(II)I"⟩, 6) := ⟨⟨by decide +kernel, by decide +kernel⟩, List.mem_of_getElem? (i := 17) (by decide +kernel), List.mem_of_getElem? (i := 659) (by decide +kernel), List.mem_of_getElem? (i := 660) (by decide +kernel)⟩
def lw_privs_1 : List (MethodName × Nat) := [(⟨"java/lang/Throwable", "fillInStackTrace", "(I)Ljava/lang/Throwable;"⟩, 6), (⟨"BranchNotes$State", "deskSays", "(II)Z"⟩, 11), (⟨"BranchNotes$State", "countGuess", "(IZZ)V"⟩, 11), (⟨"BranchNotes$State", "moveChooser", "(IZ)V"⟩, 11), (⟨"BranchNotes", "checkNote", "(I)V"⟩, 6), (⟨"BranchNotes$Text", "readCharacter", "(I)Z"⟩, 8), (⟨"BranchNotes$Text", "readSign", "(I)Z"⟩, 8), (⟨"BranchNotes$Text", "readDigit", "(I)Z"⟩, 8), (⟨"BranchNotes$Text", "repeatFrom", "(II)V"⟩, 8), (⟨"BranchNotes$Text", "readItem", "(I)Z"⟩, 8), (⟨"BranchNotes", "bestSetting", "(II)I"⟩, 6)]
theorem lw_r1 : ∀ q ∈ lw_privs_1, lw_okq q := List.forall_mem_cons.mpr ⟨lw_p0, List.forall_mem_cons.mpr ⟨lw_p1, List.forall_mem_cons.mpr ⟨lw_p2, List.forall_mem_cons.mpr ⟨lw_p3, List.forall_mem_cons.mpr ⟨lw_p4, List.forall_mem_cons.mpr ⟨lw_p5, List.forall_mem_cons.mpr ⟨lw_p6, List.forall_mem_cons.mpr ⟨lw_p7, List.forall_mem_cons.mpr ⟨lw_p8, List.forall_mem_cons.mpr ⟨lw_p9, List.forall_mem_cons.mpr ⟨lw_p10, fun _ h => absurd h List.not_mem_nil⟩⟩⟩⟩⟩⟩⟩⟩⟩⟩⟩
def lw_privs : List (MethodName × Nat) := lw_privs_1
def lw_tbl : List Cond := k2_sels lw_privs ++ tables_1
theorem lw_privs_ok : ∀ q ∈ lw_privs, lw_okq q := lw_r1

/-! ===== BEGIN words of one list among another's, by their places ===== -/
theorem goodIn_r {big : List Cond} (ws : List Cond) (ps : List Nat) (hp : ws = ps.filterMap (fun i => big[i]?)) (h : ws.all goodWord = true) : GoodIn big ws := by
  intro w hw
  have h1 := List.all_eq_true.mp h w hw
  rw [hp] at hw
  obtain ⟨i, -, hi⟩ := List.mem_filterMap.mp hw
  have hm : w ∈ big := by first | exact List.mem_of_getElem? hi | exact List.getElem?_mem hi
  exact ⟨hm, good_of_word h1⟩
theorem goodIn_app {big a b : List Cond} (ha : GoodIn big a) (hb : GoodIn big b) : GoodIn big (a ++ b) := fun w h => (List.mem_append.mp h).elim (ha w) (hb w)
theorem goodIn_ca {big a b : List Cond} {c : Cond} (ha : GoodIn big (c :: a)) (hb : GoodIn big b) : GoodIn big (c :: (a ++ b)) := fun w h => (List.mem_cons.mp h).elim (fun e => ha w (List.mem_cons.mpr (Or.inl e))) (fun h => (List.mem_append.mp h).elim (fun h => ha w (List.mem_cons.mpr (Or.inr h))) (hb w))
theorem goodIn_sub {big ws : List Cond} (hm : ∀ w ∈ ws, w ∈ big) (h : ws.all goodWord = true) : GoodIn big ws := fun w hw => ⟨hm w hw, good_of_word (List.all_eq_true.mp h w hw)⟩
/-! ===== END ===== -/

/-! ===== BEGIN exceptions that leave a method, and their catching by the caller (launches without stack traces) ===== -/
section VXA
/-! The laws vx_back, vx_callV, vx_callS, vx_callSW, vx_throw0, vx_throwS follow proofs of the library, with one case more: JvmDerived/Free/Laws.lean (Back.of_free), Shelf42/LK1.lean (callV, callS), Shelf/KitTraced.lean (throwNew0V, throwNewS). -/
/-- where a method has thrown q: the class by its name, the cell, what was written, the world -/
def vx_T (XC : String → State → State → Prop) (st : State) (q : Addr) (t : State) (mc ms : Nat) (free : Addr → Prop) : Prop :=
  ∃ (E : String) (ce : Cell) (L : List Loc), XC E st t ∧ t.heap[q]? = some ce ∧ ce.vm = .none ∧ st.vm.findClass E = some ce.cls ∧ st.WarmedH t.vm ∧ st.sameButNew ({ t with vm := st.vm } : State) L mc ms ∧ ∀ z ∈ L, free z.base
def vx_Q (Qc : Array Value → State → Outcome → State → Prop) (XC : String → State → State → Prop) (mc ms : Nat) (free : Addr → Prop) : Array Value → State → Outcome → State → Prop := fun a st o t =>
  (Qc a st o t ∧ ∃ L, FrameEnd st o t L mc ms ∧ ∀ q ∈ L, free q.base) ∨ ∃ q, o = .threw q ∧ vx_T XC st q t mc ms free
/-- a callee that returns or throws -/
def vx_Met (l : Launch) (y : MethodName) (ws : List Cond) (rm : Room) (Pc : Array Value → State → Prop) (Qc : Array Value → State → Outcome → State → Prop) (XC : String → State → State → Prop) (mc ms : Nat) (free : Addr → Prop) : Prop :=
  MetFree l y (headSpec ws rm) Pc (fun _ _ _ _ _ => True) (vx_Q Qc XC mc ms free)
def vx_Post (XC : String → State → State → Prop) (mc ms : Nat) (free : Addr → Prop) : Pt → Array Value → Addr → Pt → Prop := fun A a q B =>
  ∃ (g : JFrame) (mk : MethodId) (t : State) (L : List Loc) (E : String) (ce : Cell), B.U.heap = t.heap ∧ B.U.vm = t.vm ∧ XC E (A.U.calling g mk a) t ∧ t.heap[q]? = some ce ∧ ce.vm = .none ∧ A.U.vm.findClass E = some ce.cls ∧ B.locs = A.locs ++ L ∧ (∀ z ∈ L, free z.base) ∧ B.cells = A.cells + mc ∧ B.slots = A.slots + ms
def vx_Back (l : Launch) (R : Room) (p : Program) (e : Env) (below : List Frame) (s : State) (sargs : Array Value) (y : MethodName) (len W9 : Nat)
    (Pre : Pt → Array Value → Prop) (Post : Pt → Array Value → Option Value → Pt → Prop) (PostX : Pt → Array Value → Addr → Pt → Prop) : Prop :=
  ∀ (m : MethodId) (meth : Method) (c : Code) (A : Pt) (g : JFrame) (ig : Instr) (mk : MethodId) (a : Array Value),
    Stand p l e R s m sargs below meth c A.U A.locs A.cells A.slots → g.method = m → g.locals.size = c.maxLocals → decode c.code g.pc = .ok (ig, len) →
    2 * g.monitorRoom + (g.stack.map fun v => v.category).sum ≤ W9 → A.U.methodNamed? y = some mk → Pre A a →
    (∃ (v : Option Value) (B : Pt), Stand p l e R s m sargs below meth c B.U B.locs B.cells B.slots ∧ Post A a v B ∧
      Steps p.tables e below (doInvoke e (A.U.setTop g) [] mk a).1 (B.U.setTop { g with pc := g.pc + len, stack := v.toList ++ g.stack })) ∨
    (∃ (q : Addr) (B : Pt), Stand p l e R s m sargs below meth c B.U B.locs B.cells B.slots ∧ PostX A a q B ∧
      Steps p.tables e below (doInvoke e (A.U.setTop g) [] mk a).1 ((B.U.setTop g).pushFrame (.throwing q)))
section Payer
variable {l : Launch} {R : Room} {p : Program} {e : Env} {below : List Frame} {s : State} {sargs : Array Value} {y : MethodName} {len W9 : Nat}
theorem vx_back {ws : List Cond} {rm : Room} {Pc : Array Value → State → Prop} {Qc : Array Value → State → Outcome → State → Prop} {XC : String → State → State → Prop} {mc ms : Nat} {free : Addr → Prop} {bytes : ByteArray} {maxL : Nat} {ret : Option FieldType}
    (hM : vx_Met l y ws rm Pc Qc XC mc ms free) (hblind : FrameBlind Pc) (hrc : rm.cells = mc) (hrs : rm.slots = ms)
    (hframes : rm.frames + 1 ≤ R.frames) (hlocals : W9 + (maxL + 11) + rm.locals ≤ R.locals)
    (hws : ∀ w ∈ ws, ∀ a' U, s.WarmedH U.vm → w.before a' U = true) (hcode : Cond.code y bytes maxL ret ∈ ws) (hinit : ∀ a' U, s.WarmedH U.vm → (Cond.initialized y.cls).before a' U = true) :
    vx_Back l R p e below s sargs y len W9 (PreOf R mc ms Pc) (PostOf Qc mc ms free) (vx_Post XC mc ms free) := by
  intro m meth c A g ig mk a X hg hsize hdg hW hn hp
  have h1 : (headSpec ws rm).pre.before a A.U = true := atoms_intro fun w hw => hws w hw _ _ X.warmed
  have h2 : (Cond.code y bytes maxL ret).before a A.U = true := hws _ hcode _ _ X.warmed
  have h3 : (Cond.initialized y.cls).before a A.U = true := hinit _ _ X.warmed
  have h4 : A.cells + (headSpec ws rm).room.cells ≤ R.cells := by rw [show (headSpec ws rm).room.cells = mc from hrc]; exact hp.1
  have h5 : A.slots + (headSpec ws rm).room.slots ≤ R.slots := by rw [show (headSpec ws rm).room.slots = ms from hrs]; exact hp.2.1
  have hPc : Pc a (A.U.calling g mk a) := hblind _ _ _ _ hp.2.2
  obtain ⟨U, Ls, c0, s0⟩ := A
  dsimp only [Pt.U, Pt.locs, Pt.cells, Pt.slots] at h1 h2 h3 h4 h5 X hn hPc ⊢
  obtain ⟨methY, cY, hmY, hcY, -, hlY, -, -, -, -⟩ := Cond.code_spec hn h2
  obtain ⟨kY, hkY, -⟩ := className_of_methodNamed hn
  have hinitY : kY.init = .initialized := Cond.initialized_spec (findClass_of_methodNamed hn) hkY h3
  have h : At U g.method c below := by rw [hg]; exact X.here
  have hlocals9 : W9 + (maxL + 11) + (headSpec ws rm).room.locals ≤ R.locals := hlocals
  have happ : (headSpec ws rm).appliesLoose y e.platform (U.calling g mk a) = true :=
    Spec.appliesLoose_calling (g := g) h hdg hn hkY hinitY
      (X.room_calling (g := g) (R' := (headSpec ws rm).room) hsize hmY hcY hframes (by rw [hlY]; omega) h4 h5) h1
  obtain ⟨mid, hmid⟩ := h.above
  have hfr : (U.setTop g).frames = (.java g :: mid) ++ below := by rw [State.frames_setTop' g h.top, hmid]; rfl
  obtain ⟨o, s₂, hsteps, -, hend, hq⟩ := Steps.callFree hM p X.admits X.cas X.clock (acts := []) hfr happ hPc trivial
  have hq' : vx_Q Qc XC mc ms free a (U.calling g mk a) o s₂ := hq
  rw [State.frames_setTop' g h.top] at hend
  obtain ⟨g₀, hg0⟩ := Option.isSome_iff_exists.mp h.top
  obtain ⟨r, hr⟩ := State.topJava?_eq_some.mp hg0
  have hr' : (({ U with heap := s₂.heap, slotsUsed := s₂.slotsUsed } : State).setVm s₂.vm).frames = .java g₀ :: r := hr
  rcases hq' with ⟨hqc, L, hfe, hL⟩ | ⟨q, rfl, E, ce, L, hx, hce, hcv, hcl, hW₂, hsm, hL⟩
  · obtain ⟨⟨v, rfl⟩, hW₂, e2, q2, q3, q4, q5, q6⟩ := id hfe
    have e3 : s₂ = ({ (U.calling g mk a).setFrames s₂.frames with heap := s₂.heap, slotsUsed := s₂.slotsUsed } : State).setVm s₂.vm := by
      have : s₂ = ({ s₂ with vm := (U.calling g mk a).vm } : State).setVm s₂.vm := rfl
      rw [e2] at this
      exact this
    obtain ⟨c₂, i₂, len₂, hc₂, hd₂, hf₂⟩ := hend
    have hW' : U.WarmedH s₂.vm := hW₂
    have hcc : c₂ = c := by
      have h1 : s₂.code? g.method = U.code? g.method := by
        rw [State.code?_eq, State.code?_eq, hW'.alike.method?]
      exact Option.some.inj (hc₂.symm.trans (h1.trans h.code))
    subst hcc
    have hlen : len₂ = len := by rw [hdg] at hd₂; cases hd₂; rfl
    subst hlen
    have hs₂ : s₂ = (({ U with heap := s₂.heap, slotsUsed := s₂.slotsUsed } : State).setVm s₂.vm).setTop { g with pc := g.pc + len₂, stack := v.toList ++ g.stack } := by
      refine e3.trans ?_
      rw [hf₂, State.calling_eq h.top, State.setFrames_setFrames, State.setTop_of_frames _ hr', hr]
      rfl
    have hsame : U.sameButNew ({ U with heap := s₂.heap, slotsUsed := s₂.slotsUsed } : State) L mc ms := by
      refine ⟨?_, q2, q3, q4, q5, q6⟩
      obtain ⟨t, ht, -⟩ := State.frames_cons hr
      show ({ U with heap := s₂.heap, slotsUsed := s₂.slotsUsed } : State) = { U.setFrames U.frames with heap := s₂.heap, slotsUsed := s₂.slotsUsed }
      rw [State.setFrames_self ht]
    subst hg
    refine Or.inl ⟨v, ⟨(({ U with heap := s₂.heap, slotsUsed := s₂.slotsUsed } : State).setVm s₂.vm), Ls ++ L, c0 + mc, s0 + ms⟩,
      ⟨X.admits, X.cas, X.clock, X.frames, X.room, X.hears, X.method, X.code, (X.here.setHeapUsed s₂.heap s₂.slotsUsed).setVm hW'.alike, X.tail, State.WarmedH.trans X.warmed hW', X.limits, X.bytes, X.same.trans (hsame.setVm s.vm)⟩,
      ⟨g, mk, s₂, L, rfl, rfl, hqc, rfl, hL, rfl, rfl⟩, ?_⟩
    show Steps p.tables e below _ ((({ U with heap := s₂.heap, slotsUsed := s₂.slotsUsed } : State).setVm s₂.vm).setTop { g with pc := g.pc + len₂, stack := v.toList ++ g.stack })
    rw [← hs₂]
    exact hsteps
  · obtain ⟨e2, q2, q3, q4, q5, q6⟩ := id hsm
    have e3 : s₂ = ({ (U.calling g mk a).setFrames s₂.frames with heap := s₂.heap, slotsUsed := s₂.slotsUsed } : State).setVm s₂.vm := by
      have : s₂ = ({ s₂ with vm := (U.calling g mk a).vm } : State).setVm s₂.vm := rfl
      rw [e2] at this
      exact this
    have hf₂ : s₂.frames = .throwing q :: .java g :: U.frames.tail := hend
    have hW' : U.WarmedH s₂.vm := hW₂
    have hs₂ : s₂ = ((({ U with heap := s₂.heap, slotsUsed := s₂.slotsUsed } : State).setVm s₂.vm).setTop g).pushFrame (.throwing q) := by
      refine e3.trans ?_
      rw [hf₂, State.calling_eq h.top, State.setFrames_setFrames, State.pushFrame, State.frames_setTop _ hr', State.setTop_of_frames _ hr', State.setFrames_setFrames, hr]
      rfl
    have hsame : U.sameButNew ({ U with heap := s₂.heap, slotsUsed := s₂.slotsUsed } : State) L mc ms := by
      refine ⟨?_, q2, q3, q4, q5, q6⟩
      obtain ⟨t, ht, -⟩ := State.frames_cons hr
      show ({ U with heap := s₂.heap, slotsUsed := s₂.slotsUsed } : State) = { U.setFrames U.frames with heap := s₂.heap, slotsUsed := s₂.slotsUsed }
      rw [State.setFrames_self ht]
    subst hg
    refine Or.inr ⟨q, ⟨(({ U with heap := s₂.heap, slotsUsed := s₂.slotsUsed } : State).setVm s₂.vm), Ls ++ L, c0 + mc, s0 + ms⟩,
      ⟨X.admits, X.cas, X.clock, X.frames, X.room, X.hears, X.method, X.code, (X.here.setHeapUsed s₂.heap s₂.slotsUsed).setVm hW'.alike, X.tail, State.WarmedH.trans X.warmed hW', X.limits, X.bytes, X.same.trans (hsame.setVm s.vm)⟩,
      ⟨g, mk, s₂, L, E, ce, rfl, rfl, hx, hce, hcv, hcl, rfl, hL, rfl, rfl⟩, ?_⟩
    show Steps p.tables e below _ (((({ U with heap := s₂.heap, slotsUsed := s₂.slotsUsed } : State).setVm s₂.vm).setTop g).pushFrame (.throwing q))
    rw [← hs₂]
    exact hsteps
end Payer
section Calls
variable {p : Program} {l : Launch} {e : Env} {R : Room} {s : State} {m : MethodId} {args : Array Value} {below : List Frame} {meth : Method} {c : Code} {T : State} {locs : List Loc} {cells slots : Nat}
theorem vx_callV (X : Stand p l e R s m args below meth c T locs cells slots) (hexec : p.tables.exec = Jvm.exec) {own C : String} {index : Nat} {y : MethodName} {bytes : ByteArray} {maxL : Nat} {ret : Option FieldType}
    (hown : s.vm.findClass own = some m.cls) (hlink : (Cond.methodLink own index y).before args s = true) (hinst : (Cond.instanceMethod y).before args s = true) (hsel : (Cond.selects C y y).before args s = true)
    (hcode : (Cond.code y bytes maxL ret).before args s = true) (hy : y.cls ≠ "java/lang/invoke/MethodHandle" ∧ y.cls ≠ "java/lang/invoke/VarHandle")
    {W9 : Nat} {Pre : Pt → Array Value → Prop} {Post : Pt → Array Value → Option Value → Pt → Prop} {PostX : Pt → Array Value → Addr → Pt → Prop} (hK : vx_Back l R p e below s args y 3 W9 Pre Post PostX)
    {b : Addr} {cellB : Cell} (hcell : T.heap[b]? = some cellB) (hobj : cellB.vm.isStatics = false) (hcls : s.vm.findClass C = some cellB.cls)
    {g : JFrame} (hg : g.method = m) (hsize : g.locals.size = c.maxLocals) {argsL rest : List Value} (hlen : ∀ sig, parseMethodDescriptor y.desc = some sig → argsL.length = sig.parameters.length)
    (hstack : g.stack = argsL.reverse ++ .ref b :: rest) (hW : 2 * g.monitorRoom + (rest.map fun v => v.category).sum ≤ W9) (hdg : decode c.code g.pc = .ok (.invokevirtual index, 3))
    (hpre : ∀ vm₁, s.WarmedH vm₁ → Pre ⟨T.setVm vm₁, locs, cells, slots⟩ (Value.ref b :: argsL).toArray) :
    (∃ (v : Option Value) (vm₁ : Vm) (B : Pt), s.WarmedH vm₁ ∧ Stand p l e R s m args below meth c B.U B.locs B.cells B.slots ∧ Post ⟨T.setVm vm₁, locs, cells, slots⟩ (Value.ref b :: argsL).toArray v B ∧
      ∀ target, Steps p.tables e below (B.U.setTop { g with pc := g.pc + 3, stack := v.toList ++ rest }) target → Steps p.tables e below (T.setTop g) target) ∨
    (∃ (q : Addr) (vm₁ : Vm) (B : Pt), s.WarmedH vm₁ ∧ Stand p l e R s m args below meth c B.U B.locs B.cells B.slots ∧ PostX ⟨T.setVm vm₁, locs, cells, slots⟩ (Value.ref b :: argsL).toArray q B ∧
      Steps p.tables e below (T.setTop g) ((B.U.setTop { g with stack := rest }).pushFrame (.throwing q))) := by
  obtain ⟨mk, methM, hnamed, hmethM, hstM, habM⟩ := Cond.instanceMethod_spec hinst
  obtain ⟨methM', cM, hmethM', -, -, -, -, -, -, hsigM⟩ := Cond.code_spec hnamed hcode
  cases hmethM.symm.trans hmethM'
  obtain ⟨c2, r2, m2, q1, q2, q3, q4, kP, hkP, hkPi⟩ := Cond.selects_spec hsel
  cases hcls.symm.trans q1
  cases (State.methodFound?_of_named hnamed hy).symm.trans q2
  cases hnamed.symm.trans q3
  have hselP : selectMethod e.platform s.vm cellB.cls mk = .method mk := by rw [Launch.admits_selectMethod X.admits]; exact q4
  obtain ⟨vm₁, X₁, hstep₁⟩ := X.invokevirtual hexec hown hlink hnamed hmethM hstM hkP hkPi hy (a := b) (cell := cellB) hcell
    (fun z h => by rw [h] at hobj; cases hobj) hselP hmethM habM hkP hkPi (g := g) hg (argsL := argsL) (rest := rest) (hlen _ hsigM) hstack hdg
  rcases hK m meth c ⟨T.setVm vm₁, locs, cells, slots⟩ { g with stack := rest } (.invokevirtual index) mk (Value.ref b :: argsL).toArray X₁ hg hsize hdg hW (X₁.named hnamed) (hpre vm₁ X₁.warmed) with ⟨v, B, X', hpost, hsteps⟩ | ⟨q, B, X', hpost, hsteps⟩
  · exact Or.inl ⟨v, vm₁, B, X₁.warmed, X', hpost, fun target h => hstep₁ _ fun acts => by rw [doInvoke_state]; exact hsteps.trans h⟩
  · exact Or.inr ⟨q, vm₁, B, X₁.warmed, X', hpost, hstep₁ _ fun acts => by rw [doInvoke_state]; exact hsteps⟩
theorem vx_callS (X : Stand p l e R s m args below meth c T locs cells slots) (hexec : p.tables.exec = Jvm.exec) {own : String} {index : Nat} {y : MethodName} {bytes : ByteArray} {maxL : Nat} {ret : Option FieldType}
    (hown : s.vm.findClass own = some m.cls) (hlink : (Cond.methodLink own index y).before args s = true) (hstat : (Cond.static y).before args s = true) (hinit : (Cond.initialized y.cls).before args s = true)
    (hcode : (Cond.code y bytes maxL ret).before args s = true) (hy : y.cls ≠ "java/lang/invoke/MethodHandle" ∧ y.cls ≠ "java/lang/invoke/VarHandle")
    {W9 : Nat} {Pre : Pt → Array Value → Prop} {Post : Pt → Array Value → Option Value → Pt → Prop} {PostX : Pt → Array Value → Addr → Pt → Prop} (hK : vx_Back l R p e below s args y 3 W9 Pre Post PostX)
    {g : JFrame} (hg : g.method = m) (hsize : g.locals.size = c.maxLocals) {argsL rest : List Value} (hlen : ∀ sig, parseMethodDescriptor y.desc = some sig → argsL.length = sig.parameters.length)
    (hstack : g.stack = argsL.reverse ++ rest) (hW : 2 * g.monitorRoom + (rest.map fun v => v.category).sum ≤ W9) (hdg : decode c.code g.pc = .ok (.invokestatic index, 3))
    (hpre : ∀ vm₁, s.WarmedH vm₁ → Pre ⟨T.setVm vm₁, locs, cells, slots⟩ argsL.toArray) :
    (∃ (v : Option Value) (vm₁ : Vm) (B : Pt), s.WarmedH vm₁ ∧ Stand p l e R s m args below meth c B.U B.locs B.cells B.slots ∧ Post ⟨T.setVm vm₁, locs, cells, slots⟩ argsL.toArray v B ∧
      ∀ target, Steps p.tables e below (B.U.setTop { g with pc := g.pc + 3, stack := v.toList ++ rest }) target → Steps p.tables e below (T.setTop g) target) ∨
    (∃ (q : Addr) (vm₁ : Vm) (B : Pt), s.WarmedH vm₁ ∧ Stand p l e R s m args below meth c B.U B.locs B.cells B.slots ∧ PostX ⟨T.setVm vm₁, locs, cells, slots⟩ argsL.toArray q B ∧
      Steps p.tables e below (T.setTop g) ((B.U.setTop { g with stack := rest }).pushFrame (.throwing q))) := by
  obtain ⟨mk, hnamed⟩ := Cond.code_named hcode
  obtain ⟨methM, cM, hmethM, -, -, -, -, -, -, hsigM⟩ := Cond.code_spec hnamed hcode
  have hstatic : methM.isStatic = true := Cond.static_spec hnamed hmethM hstat
  obtain ⟨kP, hkP, -⟩ := className_of_methodNamed hnamed
  have hinitP : kP.init = .initialized := Cond.initialized_spec (findClass_of_methodNamed hnamed) hkP hinit
  obtain ⟨vm₁, X₁, hstep₁⟩ := X.invokestatic hexec hown hlink hnamed hmethM hstatic hkP hinitP hy (g := g) hg (argsL := argsL) (rest := rest) (hlen _ hsigM) hstack hdg
  rcases hK m meth c ⟨T.setVm vm₁, locs, cells, slots⟩ { g with stack := rest } (.invokestatic index) mk argsL.toArray X₁ hg hsize hdg hW (X₁.named hnamed) (hpre vm₁ X₁.warmed) with ⟨v, B, X', hpost, hsteps⟩ | ⟨q, B, X', hpost, hsteps⟩
  · exact Or.inl ⟨v, vm₁, B, X₁.warmed, X', hpost, fun target h => hstep₁ _ fun acts => by rw [doInvoke_state]; exact hsteps.trans h⟩
  · exact Or.inr ⟨q, vm₁, B, X₁.warmed, X', hpost, hstep₁ _ fun acts => by rw [doInvoke_state]; exact hsteps⟩
end Calls
theorem vx_cls {s : State} {T : State} {vm₁ : Vm} {E : String} {k : ClassId} (hW : s.WarmedH vm₁) (h : (T.setVm vm₁).vm.findClass E = some k) : s.vm.findClass E = some k := by
  have h1 : vm₁.findClass E = some k := h
  rw [hW.alike.findClass] at h1
  exact h1
/-- the method's frame g, with q thrown over it -/
def vx_W (p : Program) (l : Launch) (e : Env) (R : Room) (s : State) (m : MethodId) (args : Array Value) (below : List Frame) (meth : Method) (c : Code) (H : Heap) (locs : List Loc) (cells slots : Nat) (Q : State → Prop) (g : JFrame) (q : Addr) : Prop :=
  ∀ T : State, T.heap = H → Stand p l e R s m args below meth c T locs cells slots → ∃ t, Steps p.tables e below ((T.setTop g).pushFrame (.throwing q)) t ∧ Q t
def vx_Run (p : Program) (l : Launch) (e : Env) (R : Room) (s : State) (m : MethodId) (args : Array Value) (below : List Frame) (meth : Method) (c : Code) (H : Heap) (locs : List Loc) (cells slots mc ms : Nat) (g : JFrame) (rest : List Value) (Qa : State → Outcome → State → Prop) (XC : String → State → State → Prop) (free : Addr → Prop) : Prop :=
  ∀ T : State, T.heap = H → Stand p l e R s m args below meth c T locs cells slots →
    (∃ (v : Option Value) (st₀ t T' : State) (L : List Loc), st₀.heap = H ∧ Stand p l e R s m args below meth c T' (locs ++ L) (cells + mc) (slots + ms) ∧ (∀ q ∈ L, free q.base) ∧ T'.heap = t.heap ∧ T'.vm = t.vm ∧ Qa st₀ (.returned v) t ∧
      Goes p e below T g T' { g with pc := g.pc + 3, stack := v.toList ++ rest }) ∨
    (∃ (q : Addr) (st₀ t T' : State) (L : List Loc) (E : String) (ce : Cell), st₀.heap = H ∧ Stand p l e R s m args below meth c T' (locs ++ L) (cells + mc) (slots + ms) ∧ (∀ z ∈ L, free z.base) ∧ T'.heap = t.heap ∧ T'.vm = t.vm ∧ XC E st₀ t ∧ t.heap[q]? = some ce ∧ ce.vm = .none ∧ s.vm.findClass E = some ce.cls ∧
      Steps p.tables e below (T.setTop g) ((T'.setTop { g with stack := rest }).pushFrame (.throwing q)))
def vx_X {S : Type} (px : S → Prop) (B : String → S → State → Prop) (A : Nat → Prop) : String → State → State → Prop := fun E st t => ∃ u : S, px u ∧ B E u t ∧ va_F A st t
section Runs
variable {p : Program} {l : Launch} {e : Env} {R : Room} {s : State} {m : MethodId} {args : Array Value} {below : List Frame} {meth : Method} {c : Code} {H : Heap} {locs : List Loc} {cells slots : Nat}
variable {y : MethodName} {bytes cc : ByteArray} {maxL nL mc ms n index : Nat} {ret : Option FieldType} {ws : List Cond} {rm : Room} {Pc : Array Value → State → Prop} {Qc : Array Value → State → Outcome → State → Prop} {XC : String → State → State → Prop} {free : Addr → Prop} {Ts : List Cond} {own C : String} {b : Addr} {As rest : List Value} {g : JFrame}
theorem vx_callBack (cb : CallB R s args own index y bytes maxL ret ws rm mc ms n) (hM : vx_Met l y ws rm Pc Qc XC mc ms free) (hbl : FrameBlind Pc) : vx_Back l R p e below s args y 3 8 (PreOf R mc ms Pc) (PostOf Qc mc ms free) (vx_Post XC mc ms free) := by
  obtain ⟨hrc, hrs, hfr, hlo, hws, hcw, -, hini, -⟩ := cb
  exact vx_back (bytes := bytes) (maxL := maxL) (ret := ret) hM hbl hrc hrs hfr hlo hws hcw (fun a' U hW => word_at hW (Or.inl (by first | rfl | simp [Cond.onTables, Cond.keeps, Cond.steady])) hini)
theorem vx_runV (S : CallFix p m c cc nL s args Ts own) (hM : vx_Met l y ws rm Pc Qc XC mc ms free) (cw : CallW R s args own C index y bytes maxL ret ws rm mc ms n) (hp : PreV s H C b Pc As)
    (hg : g.method = m) (hn : As.length = n) (hsize : g.locals.size = nL) (hstack : g.stack = As.reverse ++ .ref b :: rest) (hW : 2 * g.monitorRoom + (rest.map fun v => v.category).sum ≤ 8) (hdg : decode cc g.pc = .ok (.invokevirtual index, 3)) (hf : cells + mc ≤ R.cells ∧ slots + ms ≤ R.slots) :
    vx_Run p l e R s m args below meth c H locs cells slots mc ms g rest (Qc (Value.ref b :: As).toArray) XC free := by
  have hK : vx_Back l R p e below s args y 3 8 (PreOf R mc ms Pc) (PostOf Qc mc ms free) (vx_Post XC mc ms free) := vx_callBack cw.1 hM hp.1
  obtain ⟨⟨-, -, -, -, -, -, hcode, -, hy, hlen, hl⟩, hin, hse⟩ := cw
  obtain ⟨hx, hb, hml, ho, -⟩ := S
  obtain ⟨-, ⟨cellB, hcB, hoB, hclB⟩, hPc⟩ := hp
  intro T hT X
  rcases vx_callV X hx (C := C) (bytes := bytes) (maxL := maxL) (ret := ret) ho hl hin hse hcode hy hK (by rw [hT]; exact hcB) hoB hclB hg (hsize.trans hml.symm) (argsL := As) (rest := rest) (fun sig h => hn.trans (hlen sig h)) hstack hW (by rw [hb]; exact hdg)
    (fun vm₁ hW₁ => ⟨hf.1, hf.2, hPc (T.setVm vm₁) hT hW₁⟩) with ⟨v, vm₁, ⟨U', l2, c2, s2⟩, hW₁, X', ⟨g', mk, t, L, e1, e2, hq, h1, hL, h2, h3⟩, st⟩ | ⟨q, vm₁, ⟨U', l2, c2, s2⟩, hW₁, X', ⟨g', mk, t, L, E, ce, e1, e2, hq, hce, hcv, hcl, h1, hL, h2, h3⟩, st⟩
  · dsimp only [Pt.U, Pt.locs, Pt.cells, Pt.slots] at X' e1 e2 h1 h2 h3 st
    subst h1; subst h2; subst h3
    exact Or.inl ⟨v, (T.setVm vm₁).calling g' mk (Value.ref b :: As).toArray, t, U', L, hT, X', hL, e1, e2, hq, st⟩
  · dsimp only [Pt.U, Pt.locs, Pt.cells, Pt.slots] at X' e1 e2 h1 h2 h3 st hcl
    subst h1; subst h2; subst h3
    exact Or.inr ⟨q, (T.setVm vm₁).calling g' mk (Value.ref b :: As).toArray, t, U', L, E, ce, hT, X', hL, e1, e2, hq, hce, hcv, vx_cls hW₁ hcl, st⟩
theorem vx_runS (S : CallFix p m c cc nL s args Ts own) (hM : vx_Met l y ws rm Pc Qc XC mc ms free) (cw : CallB R s args own index y bytes maxL ret ws rm mc ms n ∧ (Cond.static y).before args s = true) (hp : PreS s H Pc As)
    (hg : g.method = m) (hn : As.length = n) (hsize : g.locals.size = nL) (hstack : g.stack = As.reverse ++ rest) (hW : 2 * g.monitorRoom + (rest.map fun v => v.category).sum ≤ 8) (hdg : decode cc g.pc = .ok (.invokestatic index, 3)) (hf : cells + mc ≤ R.cells ∧ slots + ms ≤ R.slots) :
    vx_Run p l e R s m args below meth c H locs cells slots mc ms g rest (Qc As.toArray) XC free := by
  have hK : vx_Back l R p e below s args y 3 8 (PreOf R mc ms Pc) (PostOf Qc mc ms free) (vx_Post XC mc ms free) := vx_callBack cw.1 hM hp.1
  obtain ⟨⟨-, -, -, -, -, -, hcode, hini, hy, hlen, hl⟩, hstt⟩ := cw
  obtain ⟨hx, hb, hml, ho, -⟩ := S
  intro T hT X
  rcases vx_callS X hx (bytes := bytes) (maxL := maxL) (ret := ret) ho hl hstt hini hcode hy hK hg (hsize.trans hml.symm) (argsL := As) (rest := rest) (fun sig h => hn.trans (hlen sig h)) hstack hW (by rw [hb]; exact hdg)
    (fun vm₁ hW₁ => ⟨hf.1, hf.2, hp.2 (T.setVm vm₁) hT hW₁⟩) with ⟨v, vm₁, ⟨U', l2, c2, s2⟩, hW₁, X', ⟨g', mk, t, L, e1, e2, hq, h1, hL, h2, h3⟩, st⟩ | ⟨q, vm₁, ⟨U', l2, c2, s2⟩, hW₁, X', ⟨g', mk, t, L, E, ce, e1, e2, hq, hce, hcv, hcl, h1, hL, h2, h3⟩, st⟩
  · dsimp only [Pt.U, Pt.locs, Pt.cells, Pt.slots] at X' e1 e2 h1 h2 h3 st
    subst h1; subst h2; subst h3
    exact Or.inl ⟨v, (T.setVm vm₁).calling g' mk As.toArray, t, U', L, hT, X', hL, e1, e2, hq, st⟩
  · dsimp only [Pt.U, Pt.locs, Pt.cells, Pt.slots] at X' e1 e2 h1 h2 h3 st hcl
    subst h1; subst h2; subst h3
    exact Or.inr ⟨q, (T.setVm vm₁).calling g' mk As.toArray, t, U', L, E, ce, hT, X', hL, e1, e2, hq, hce, hcv, vx_cls hW₁ hcl, st⟩
end Runs
section Rows
variable {p : Program} {l : Launch} {e : Env} {R : Room} {s : State} {m : MethodId} {args : Array Value} {below : List Frame} {meth : Method} {c : Code} {H : Heap} {locs : List Loc} {cells slots : Nat} {Q : State → Prop}
variable {mc ms : Nat} {free : Addr → Prop} {A0 A1 : Nat → Prop} {H0 : Heap} {a : Array Value} {pc : Nat} {ls : Array Slot} {st0 rest : List Value}
theorem vx_keep {st₀ t T' : State} {L : List Loc} (h0 : st₀.heap = H) (e1 : T'.heap = t.heap) (hS : va_S A0 H0 H locs) (hA : ∀ q, q < H.size → A1 q → A0 q) (hf : ∀ q, free q → A0 q) (hL : ∀ q ∈ L, free q.base) (hF : va_F A1 st₀ t) :
    H.size ≤ T'.heap.size ∧ (∀ q : Nat, q < H.size → ¬ A1 q → T'.heap[q]? = H[q]?) ∧ va_S A0 H0 T'.heap (locs ++ L) := by
  obtain ⟨hz, hk⟩ := hF
  rw [h0] at hz hk
  exact ⟨by rw [e1]; exact hz, fun q h1 h2 => by rw [e1]; exact hk q h1 h2,
    ⟨Nat.le_trans hS.1 (by rw [e1]; exact hz), fun q h1 h2 => by rw [e1, hk q (Nat.lt_of_lt_of_le h1 hS.1) (fun z => h2 (hA q (Nat.lt_of_lt_of_le h1 hS.1) z))]; exact hS.2.1 q h1 h2, fun q hq => by
      rcases List.mem_append.mp hq with h | h
      · exact hS.2.2 q h
      · exact hf _ (hL q h)⟩⟩
theorem vx_calli {S SX : Type} {post : Int32 → S → Prop} {px : SX → Prop} {B : S → State → Prop} {BX : String → SX → State → Prop} {AX : Nat → Prop} (hr : vx_Run p l e R s m args below meth c H locs cells slots mc ms (F0 m pc ls st0) rest (va_Qi post B A1 a) (vx_X px BX AX) free) (hS : va_S A0 H0 H locs) (hA : ∀ q, q < H.size → A1 q → A0 q) (hf : ∀ q, free q → A0 q) (hAX : ∀ q, q < H.size → AX q → A0 q)
    (kx : ∀ (E : String) (ce : Cell) (q9 : Addr) (u : SX) (t : State) (H1 : Heap) (locs1 : List Loc), t.heap = H1 → s.vm.Alike t.vm → px u → BX E u t → H.size ≤ H1.size → (∀ q : Nat, q < H.size → ¬ AX q → H1[q]? = H[q]?) → va_S A0 H0 H1 locs1 → H1[q9]? = some ce → ce.vm = .none → s.vm.findClass E = some ce.cls → vx_W p l e R s m args below meth c H1 locs1 (cells + mc) (slots + ms) Q (F0 m pc ls rest) q9)
    (kk : ∀ (r : Int32) (u : S) (t : State) (H1 : Heap) (locs1 : List Loc), t.heap = H1 → s.vm.Alike t.vm → post r u → B u t → H.size ≤ H1.size → (∀ q : Nat, q < H.size → ¬ A1 q → H1[q]? = H[q]?) → va_S A0 H0 H1 locs1 → W p l e R s m args below meth c H1 locs1 (cells + mc) (slots + ms) Q (F0 m (pc + 3) ls (.int r :: rest))) : W p l e R s m args below meth c H locs cells slots Q (F0 m pc ls st0) := by
  intro T hT X
  rcases hr T hT X with ⟨v, st₀, t, T', L, h0, X', hL, e1, e2, ⟨⟨r, u, hv, hp, hb⟩, hF⟩, st⟩ | ⟨q, st₀, t, T', L, E, ce, h0, X', hL, e1, e2, ⟨u, hp, hb, hF⟩, hce, hcv, hcl, st⟩
  · cases hv
    obtain ⟨k1, k2, k3⟩ := vx_keep h0 e1 hS hA hf hL hF
    obtain ⟨t2, a1, b1⟩ := kk r u t T'.heap (locs ++ L) e1.symm (by rw [← e2]; exact X'.warmed.alike) hp hb k1 k2 k3 T' rfl X'
    exact ⟨t2, st t2 a1, b1⟩
  · obtain ⟨k1, k2, k3⟩ := vx_keep h0 e1 hS hAX hf hL hF
    obtain ⟨t2, a1, b1⟩ := kx E ce q u t T'.heap (locs ++ L) e1.symm (by rw [← e2]; exact X'.warmed.alike) hp hb k1 k2 k3 (by rw [e1]; exact hce) hcv hcl T' rfl X'
    exact ⟨t2, st.trans a1, b1⟩
theorem vx_calll {S SX : Type} {post : Int64 → S → Prop} {px : SX → Prop} {B : S → State → Prop} {BX : String → SX → State → Prop} {AX : Nat → Prop} (hr : vx_Run p l e R s m args below meth c H locs cells slots mc ms (F0 m pc ls st0) rest (va_Ql post B A1 a) (vx_X px BX AX) free) (hS : va_S A0 H0 H locs) (hA : ∀ q, q < H.size → A1 q → A0 q) (hf : ∀ q, free q → A0 q) (hAX : ∀ q, q < H.size → AX q → A0 q)
    (kx : ∀ (E : String) (ce : Cell) (q9 : Addr) (u : SX) (t : State) (H1 : Heap) (locs1 : List Loc), t.heap = H1 → s.vm.Alike t.vm → px u → BX E u t → H.size ≤ H1.size → (∀ q : Nat, q < H.size → ¬ AX q → H1[q]? = H[q]?) → va_S A0 H0 H1 locs1 → H1[q9]? = some ce → ce.vm = .none → s.vm.findClass E = some ce.cls → vx_W p l e R s m args below meth c H1 locs1 (cells + mc) (slots + ms) Q (F0 m pc ls rest) q9)
    (kk : ∀ (r : Int64) (u : S) (t : State) (H1 : Heap) (locs1 : List Loc), t.heap = H1 → s.vm.Alike t.vm → post r u → B u t → H.size ≤ H1.size → (∀ q : Nat, q < H.size → ¬ A1 q → H1[q]? = H[q]?) → va_S A0 H0 H1 locs1 → W p l e R s m args below meth c H1 locs1 (cells + mc) (slots + ms) Q (F0 m (pc + 3) ls (.long r :: rest))) : W p l e R s m args below meth c H locs cells slots Q (F0 m pc ls st0) := by
  intro T hT X
  rcases hr T hT X with ⟨v, st₀, t, T', L, h0, X', hL, e1, e2, ⟨⟨r, u, hv, hp, hb⟩, hF⟩, st⟩ | ⟨q, st₀, t, T', L, E, ce, h0, X', hL, e1, e2, ⟨u, hp, hb, hF⟩, hce, hcv, hcl, st⟩
  · cases hv
    obtain ⟨k1, k2, k3⟩ := vx_keep h0 e1 hS hA hf hL hF
    obtain ⟨t2, a1, b1⟩ := kk r u t T'.heap (locs ++ L) e1.symm (by rw [← e2]; exact X'.warmed.alike) hp hb k1 k2 k3 T' rfl X'
    exact ⟨t2, st t2 a1, b1⟩
  · obtain ⟨k1, k2, k3⟩ := vx_keep h0 e1 hS hAX hf hL hF
    obtain ⟨t2, a1, b1⟩ := kx E ce q u t T'.heap (locs ++ L) e1.symm (by rw [← e2]; exact X'.warmed.alike) hp hb k1 k2 k3 (by rw [e1]; exact hce) hcv hcl T' rfl X'
    exact ⟨t2, st.trans a1, b1⟩
theorem vx_callf {S SX : Type} {post : UInt32 → S → Prop} {px : SX → Prop} {B : S → State → Prop} {BX : String → SX → State → Prop} {AX : Nat → Prop} (hr : vx_Run p l e R s m args below meth c H locs cells slots mc ms (F0 m pc ls st0) rest (va_Qf post B A1 a) (vx_X px BX AX) free) (hS : va_S A0 H0 H locs) (hA : ∀ q, q < H.size → A1 q → A0 q) (hf : ∀ q, free q → A0 q) (hAX : ∀ q, q < H.size → AX q → A0 q)
    (kx : ∀ (E : String) (ce : Cell) (q9 : Addr) (u : SX) (t : State) (H1 : Heap) (locs1 : List Loc), t.heap = H1 → s.vm.Alike t.vm → px u → BX E u t → H.size ≤ H1.size → (∀ q : Nat, q < H.size → ¬ AX q → H1[q]? = H[q]?) → va_S A0 H0 H1 locs1 → H1[q9]? = some ce → ce.vm = .none → s.vm.findClass E = some ce.cls → vx_W p l e R s m args below meth c H1 locs1 (cells + mc) (slots + ms) Q (F0 m pc ls rest) q9)
    (kk : ∀ (r : UInt32) (u : S) (t : State) (H1 : Heap) (locs1 : List Loc), t.heap = H1 → s.vm.Alike t.vm → post r u → B u t → H.size ≤ H1.size → (∀ q : Nat, q < H.size → ¬ A1 q → H1[q]? = H[q]?) → va_S A0 H0 H1 locs1 → W p l e R s m args below meth c H1 locs1 (cells + mc) (slots + ms) Q (F0 m (pc + 3) ls (.float r :: rest))) : W p l e R s m args below meth c H locs cells slots Q (F0 m pc ls st0) := by
  intro T hT X
  rcases hr T hT X with ⟨v, st₀, t, T', L, h0, X', hL, e1, e2, ⟨⟨r, u, hv, hp, hb⟩, hF⟩, st⟩ | ⟨q, st₀, t, T', L, E, ce, h0, X', hL, e1, e2, ⟨u, hp, hb, hF⟩, hce, hcv, hcl, st⟩
  · cases hv
    obtain ⟨k1, k2, k3⟩ := vx_keep h0 e1 hS hA hf hL hF
    obtain ⟨t2, a1, b1⟩ := kk r u t T'.heap (locs ++ L) e1.symm (by rw [← e2]; exact X'.warmed.alike) hp hb k1 k2 k3 T' rfl X'
    exact ⟨t2, st t2 a1, b1⟩
  · obtain ⟨k1, k2, k3⟩ := vx_keep h0 e1 hS hAX hf hL hF
    obtain ⟨t2, a1, b1⟩ := kx E ce q u t T'.heap (locs ++ L) e1.symm (by rw [← e2]; exact X'.warmed.alike) hp hb k1 k2 k3 (by rw [e1]; exact hce) hcv hcl T' rfl X'
    exact ⟨t2, st.trans a1, b1⟩
theorem vx_calld {S SX : Type} {post : UInt64 → S → Prop} {px : SX → Prop} {B : S → State → Prop} {BX : String → SX → State → Prop} {AX : Nat → Prop} (hr : vx_Run p l e R s m args below meth c H locs cells slots mc ms (F0 m pc ls st0) rest (va_Qd post B A1 a) (vx_X px BX AX) free) (hS : va_S A0 H0 H locs) (hA : ∀ q, q < H.size → A1 q → A0 q) (hf : ∀ q, free q → A0 q) (hAX : ∀ q, q < H.size → AX q → A0 q)
    (kx : ∀ (E : String) (ce : Cell) (q9 : Addr) (u : SX) (t : State) (H1 : Heap) (locs1 : List Loc), t.heap = H1 → s.vm.Alike t.vm → px u → BX E u t → H.size ≤ H1.size → (∀ q : Nat, q < H.size → ¬ AX q → H1[q]? = H[q]?) → va_S A0 H0 H1 locs1 → H1[q9]? = some ce → ce.vm = .none → s.vm.findClass E = some ce.cls → vx_W p l e R s m args below meth c H1 locs1 (cells + mc) (slots + ms) Q (F0 m pc ls rest) q9)
    (kk : ∀ (r : UInt64) (u : S) (t : State) (H1 : Heap) (locs1 : List Loc), t.heap = H1 → s.vm.Alike t.vm → post r u → B u t → H.size ≤ H1.size → (∀ q : Nat, q < H.size → ¬ A1 q → H1[q]? = H[q]?) → va_S A0 H0 H1 locs1 → W p l e R s m args below meth c H1 locs1 (cells + mc) (slots + ms) Q (F0 m (pc + 3) ls (.double r :: rest))) : W p l e R s m args below meth c H locs cells slots Q (F0 m pc ls st0) := by
  intro T hT X
  rcases hr T hT X with ⟨v, st₀, t, T', L, h0, X', hL, e1, e2, ⟨⟨r, u, hv, hp, hb⟩, hF⟩, st⟩ | ⟨q, st₀, t, T', L, E, ce, h0, X', hL, e1, e2, ⟨u, hp, hb, hF⟩, hce, hcv, hcl, st⟩
  · cases hv
    obtain ⟨k1, k2, k3⟩ := vx_keep h0 e1 hS hA hf hL hF
    obtain ⟨t2, a1, b1⟩ := kk r u t T'.heap (locs ++ L) e1.symm (by rw [← e2]; exact X'.warmed.alike) hp hb k1 k2 k3 T' rfl X'
    exact ⟨t2, st t2 a1, b1⟩
  · obtain ⟨k1, k2, k3⟩ := vx_keep h0 e1 hS hAX hf hL hF
    obtain ⟨t2, a1, b1⟩ := kx E ce q u t T'.heap (locs ++ L) e1.symm (by rw [← e2]; exact X'.warmed.alike) hp hb k1 k2 k3 (by rw [e1]; exact hce) hcv hcl T' rfl X'
    exact ⟨t2, st.trans a1, b1⟩
theorem vx_callv {S SX : Type} {post : S → Prop} {px : SX → Prop} {B : S → State → Prop} {BX : String → SX → State → Prop} {AX : Nat → Prop} (hr : vx_Run p l e R s m args below meth c H locs cells slots mc ms (F0 m pc ls st0) rest (va_Qv post B A1 a) (vx_X px BX AX) free) (hS : va_S A0 H0 H locs) (hA : ∀ q, q < H.size → A1 q → A0 q) (hf : ∀ q, free q → A0 q) (hAX : ∀ q, q < H.size → AX q → A0 q)
    (kx : ∀ (E : String) (ce : Cell) (q9 : Addr) (u : SX) (t : State) (H1 : Heap) (locs1 : List Loc), t.heap = H1 → s.vm.Alike t.vm → px u → BX E u t → H.size ≤ H1.size → (∀ q : Nat, q < H.size → ¬ AX q → H1[q]? = H[q]?) → va_S A0 H0 H1 locs1 → H1[q9]? = some ce → ce.vm = .none → s.vm.findClass E = some ce.cls → vx_W p l e R s m args below meth c H1 locs1 (cells + mc) (slots + ms) Q (F0 m pc ls rest) q9)
    (kk : ∀ (u : S) (t : State) (H1 : Heap) (locs1 : List Loc), t.heap = H1 → s.vm.Alike t.vm → post u → B u t → H.size ≤ H1.size → (∀ q : Nat, q < H.size → ¬ A1 q → H1[q]? = H[q]?) → va_S A0 H0 H1 locs1 → W p l e R s m args below meth c H1 locs1 (cells + mc) (slots + ms) Q (F0 m (pc + 3) ls (rest))) : W p l e R s m args below meth c H locs cells slots Q (F0 m pc ls st0) := by
  intro T hT X
  rcases hr T hT X with ⟨v, st₀, t, T', L, h0, X', hL, e1, e2, ⟨⟨u, hv, hp, hb⟩, hF⟩, st⟩ | ⟨q, st₀, t, T', L, E, ce, h0, X', hL, e1, e2, ⟨u, hp, hb, hF⟩, hce, hcv, hcl, st⟩
  · cases hv
    obtain ⟨k1, k2, k3⟩ := vx_keep h0 e1 hS hA hf hL hF
    obtain ⟨t2, a1, b1⟩ := kk u t T'.heap (locs ++ L) e1.symm (by rw [← e2]; exact X'.warmed.alike) hp hb k1 k2 k3 T' rfl X'
    exact ⟨t2, st t2 a1, b1⟩
  · obtain ⟨k1, k2, k3⟩ := vx_keep h0 e1 hS hAX hf hL hF
    obtain ⟨t2, a1, b1⟩ := kx E ce q u t T'.heap (locs ++ L) e1.symm (by rw [← e2]; exact X'.warmed.alike) hp hb k1 k2 k3 (by rw [e1]; exact hce) hcv hcl T' rfl X'
    exact ⟨t2, st.trans a1, b1⟩
/-- caught by the row x of this method's table; the rows ahead don't take it -/
theorem vx_catch {own name : String} {E : String} {ce : Cell} {q : Addr} (hown : s.vm.findClass own = some m.cls) (pre : List ExceptionTableEntry) (x : ExceptionTableEntry) (suf : List ExceptionTableEntry) (hsplit : c.exceptionTable.toList = pre ++ x :: suf)
    (hpass : ∀ z ∈ pre, covers z pc = false ∨ (z.catchType ≠ 0 ∧ ∃ nm : String, (Cond.classLink own z.catchType nm).before args s = true ∧ va_Nc E nm s)) (hx : covers x pc = true) (h0 : x.catchType ≠ 0)
    (hlink : (Cond.classLink own x.catchType name).before args s = true) (hcast : (Cond.castable E name).before args s = true) (hcell : H[q]? = some ce) (hv : ce.vm = .none) (hcl : s.vm.findClass E = some ce.cls)
    (kk : W p l e R s m args below meth c H locs cells slots Q (F0 m x.handlerPc ls [.ref q])) : vx_W p l e R s m args below meth c H locs cells slots Q (F0 m pc ls rest) q := by
  intro T hT X
  have hpl : e.platform.magicAccessors = ({} : Platform).magicAccessors := by rw [X.admits.platform]
  obtain ⟨c3, c4, hc3, hc4, hasg⟩ := Cond.castable_spec hcast
  cases Option.some.inj (hc3.symm.trans hcl)
  obtain ⟨c5, hc5, hcl5⟩ := Cond.classLink_spec hown hlink e.platform hpl
  cases Option.some.inj (hc4.symm.trans hc5)
  obtain ⟨vm', X', st⟩ := X.thenCaughtThrough q (g := F0 m pc ls rest) rfl (Steps.refl _) (by rw [hT]; exact hcell) (by rw [hv]; rfl) (by obtain ⟨k9, h9, -⟩ := Vm.findClass_spec hcl; exact ⟨k9, h9⟩) pre x suf hsplit
    (fun z hz => by
      rcases hpass z hz with h | ⟨hz0, nm, hl1, hn1⟩
      · exact Or.inl h
      · obtain ⟨c6, hc6, hcl6⟩ := Cond.classLink_spec hown hl1 e.platform hpl
        obtain ⟨a8, b8, h1, h2, h3⟩ := hn1
        cases Option.some.inj (h1.symm.trans hcl)
        cases Option.some.inj (h2.symm.trans hc6)
        exact Or.inr ⟨hz0, _, hcl6, h3⟩) hx (Or.inr ⟨h0, c4, hcl5, hasg⟩)
  obtain ⟨t, a1, b1⟩ := kk (T.setVm vm') hT X'
  exact ⟨t, st.trans a1, b1⟩
end Rows
section Ends
variable {p : Program} {l : Launch} {e : Env} {R : Room} {s : State} {m : MethodId} {args : Array Value} {below : List Frame} {meth : Method} {c : Code} {H : Heap} {locs : List Loc} {cells slots : Nat} {Q : State → Prop}
variable {mc ms : Nat} {free : Addr → Prop} {A0 A1 : Nat → Prop} {H0 : Heap} {a : Array Value} {ls : Array Slot} {st0 rest : List Value}
variable {Qc : Array Value → State → Outcome → State → Prop} {XC : String → State → State → Prop}
/-- what a body that may throw owes at its end -/
def vx_MQ (below : List Frame) (Qc : Array Value → State → Outcome → State → Prop) (XC : String → State → State → Prop) (a : Array Value) (s : State) (mc ms : Nat) (free : Addr → Prop) : State → Prop := fun t =>
  ∃ o, t.status = .running ∧ Ended t below o ∧ vx_Q Qc XC mc ms free a s o t
theorem vx_ret {g : JFrame} {mc ms : Nat} (k : W p l e R s m args below meth c H locs cells slots (MQ below Qc args s mc ms free) g) : W p l e R s m args below meth c H locs cells slots (vx_MQ below Qc XC args s mc ms free) g := by
  intro T hT X
  obtain ⟨t, a1, o, b1, b2, b3, b4⟩ := k T hT X
  exact ⟨t, a1, o, b1, b2, Or.inl ⟨b3, b4⟩⟩
/-- not caught here: it goes on to the caller -/
theorem vx_widen {g : JFrame} {q : Addr} {k n : Nat} (h1 : cells ≤ k) (h2 : slots ≤ n) (kk : vx_W p l e R s m args below meth c H locs k n Q g q) : vx_W p l e R s m args below meth c H locs cells slots Q g q := fun T hT X => kk T hT (stand_widen X h1 h2)
theorem vx_out {pc : Nat} {E : String} {ce : Cell} {q : Addr} {mc ms : Nat} (hout : ∀ x ∈ c.exceptionTable.toList, covers x pc = false) (hlocks : meth.locks = false) (hcell : H[q]? = some ce) (hv : ce.vm = .none) (hcl : s.vm.findClass E = some ce.cls)
    (hx : ∀ t : State, t.heap = H → s.vm.Alike t.vm → XC E s t) (hf : ∀ z ∈ locs, free z.base) (hc : cells ≤ mc) (hs : slots ≤ ms) :
    vx_W p l e R s m args below meth c H locs cells slots (vx_MQ below Qc XC args s mc ms free) (F0 m pc ls rest) q := by
  intro T hT X
  obtain ⟨st1, hrun, hend, hW, hsm⟩ := X.leaveThrown q (g := F0 m pc ls rest) rfl rfl rfl hout hlocks
  have hcell9 : (T.setFrames (.throwing q :: below)).heap[q]? = some ce := by
    show T.heap[q]? = some ce
    rw [hT]; exact hcell
  exact ⟨_, st1, .threw q, hrun, hend, Or.inr ⟨q, rfl, E, ce, locs, hx _ hT hW.alike, hcell9, hv, hcl, hW, hsm.mono hc hs, hf⟩⟩
theorem vx_frame {U : State} {k n : Nat} (h : s.sameButNew ({ U with vm := s.vm } : State) locs k n) : s.heap.size ≤ U.heap.size ∧ ∀ q : Nat, q < s.heap.size → (∀ z ∈ locs, z.base ≠ q) → U.heap[q]? = s.heap[q]? := by
  obtain ⟨-, h2, -, -, -, h6⟩ := h
  refine ⟨h2, fun q hq hz => ?_⟩
  obtain ⟨c9, e1, e2, e3, e4⟩ := h6 q _ (Array.getElem?_eq_getElem hq)
  have hs : c9.slots = (s.heap[q]).slots := Array.ext_getElem? fun i => e4 i fun hm => hz _ hm rfl
  have h9 : c9 = s.heap[q] := by
    rw [hs] at e2
    exact e2
  have e5 : U.heap[q]? = some c9 := e1
  rw [e5, h9, Array.getElem?_eq_getElem hq]
/-- the words of a throw but the four that speak of the heap -/
def vx_no (w : Cond) : Bool := decide (w ≠ .isRef (.static Bundle.tN "UNASSIGNED_STACK" Bundle.steD)) && decide (w ≠ .isRef (.static Bundle.tN "SUPPRESSED_SENTINEL" Bundle.listD)) && decide (w ≠ .laysStatic Bundle.tN "UNASSIGNED_STACK" Bundle.steD) && decide (w ≠ .laysStatic Bundle.tN "SUPPRESSED_SENTINEL" Bundle.listD)
def vx_at0 (own : String) (ic : Nat) (X : String) (names : List String) : List Cond := (Bundle.ownAtoms0 own ic X names).filter vx_no
def vx_atS (own : String) (ic : Nat) (X : String) (names : List String) : List Cond := (Bundle.ownAtoms own ic X names).filter vx_no
/-- a word that the tables alone decide, or a good one -/
def vx_ot (w : Cond) : Bool := w.onTables || goodWord w
theorem vx_ot_at {args a' : Array Value} {s U : State} {w : Cond} (hW : s.WarmedH U.vm) (hvm : s.vm = U.vm) (hg : vx_ot w = true) (h : w.before args s = true) : w.before a' U = true := by
  simp only [vx_ot, Bool.or_eq_true] at hg
  rcases hg with hg | hg
  · exact va_tabs hg hvm h
  · exact word_at hW (good_of_word hg) h
/-- a list's words: the good ones out of the method's own list, the others by premises of their own -/
theorem vx_hat {args : Array Value} {s : State} {L B : List Cond} (h1 : ∀ w ∈ L.filter goodWord, w.before args s = true) (h2 : ∀ w ∈ L.filter (fun w => !goodWord w), w ∈ B) (h3 : ∀ w ∈ B, w.before args s = true) : ∀ w ∈ L, w.before args s = true := by
  intro w hw
  by_cases g : goodWord w = true
  · exact h1 w (List.mem_filter.mpr ⟨hw, g⟩)
  · refine h3 w (h2 w (List.mem_filter.mpr ⟨hw, ?_⟩))
    show (!goodWord w) = true
    cases hgw : goodWord w
    · rfl
    · exact absurd hgw g
theorem vx_c {args : Array Value} {s : State} {w : Cond} {B : List Cond} (h : w.before args s = true) (t : ∀ w ∈ B, w.before args s = true) : ∀ w' ∈ w :: B, w'.before args s = true := fun w' h' => (List.mem_cons.mp h').elim (fun e => by rw [e]; exact h) (t w')
theorem vx_n {args : Array Value} {s : State} : ∀ w ∈ ([] : List Cond), w.before args s = true := fun _ h => nomatch h
theorem vx_own {args : Array Value} {s : State} {L : List Cond} (h1 : ∀ w ∈ L.filter vx_no, w.before args s = true)
    (hU : (Cond.isRef (.static Bundle.tN "UNASSIGNED_STACK" Bundle.steD)).before args s = true) (hN : (Cond.isRef (.static Bundle.tN "SUPPRESSED_SENTINEL" Bundle.listD)).before args s = true)
    (lU : (Cond.laysStatic Bundle.tN "UNASSIGNED_STACK" Bundle.steD).before args s = true) (lN : (Cond.laysStatic Bundle.tN "SUPPRESSED_SENTINEL" Bundle.listD).before args s = true) : ∀ w ∈ L, w.before args s = true := by
  intro w hw
  by_cases e1 : w = .isRef (.static Bundle.tN "UNASSIGNED_STACK" Bundle.steD)
  · rw [e1]; exact hU
  · by_cases e2 : w = .isRef (.static Bundle.tN "SUPPRESSED_SENTINEL" Bundle.listD)
    · rw [e2]; exact hN
    · by_cases e3 : w = .laysStatic Bundle.tN "UNASSIGNED_STACK" Bundle.steD
      · rw [e3]; exact lU
      · by_cases e4 : w = .laysStatic Bundle.tN "SUPPRESSED_SENTINEL" Bundle.listD
        · rw [e4]; exact lN
        · exact h1 w (List.mem_filter.mpr ⟨hw, by unfold vx_no; rw [decide_eq_true e1, decide_eq_true e2, decide_eq_true e3, decide_eq_true e4]; rfl⟩)
/-- where a static field lies, its class's statics cell in H -/
def vx_L (C n d : String) (A : Nat → Prop) (U : State) (H : Heap) : Prop := ∃ (c : ClassId) (k : Class) (i : Nat) (f : Field) (a : Nat) (cell : Cell), U.vm.findClass C = some c ∧ U.fieldFound? C n d = some (c, k, i, f) ∧ f.isStatic = true ∧ k.statics = some a ∧ H[a]? = some cell ∧ cell.vm.isStatics = true ∧ cell.cls = c ∧ f.slot < cell.slots.size ∧ k.staticTypes[f.slot]? = some f.type ∧ ¬ A a
theorem vx_L.moved {C n d : String} {A : Nat → Prop} {u U : State} {H : Heap} (hvm : u.vm.Alike U.vm) (h : vx_L C n d A u H) : vx_L C n d A U H := by
  obtain ⟨c, k, i, f, a, cell, h1, h2, h3, h4, h5, h6, h7, h8, h9, h10⟩ := h
  obtain ⟨k', hi', he⟩ := State.fieldFound?_setVm hvm h2
  exact ⟨c, k', i, f, a, cell, by rw [hvm.findClass]; exact h1, hi', h3, by rw [he]; exact h4, h5, h6, h7, h8, by rw [he]; exact h9, h10⟩
theorem vx_L.kept {C n d : String} {A : Nat → Prop} {U : State} {H H1 : Heap} (h : vx_L C n d A U H) (hq : ∀ a : Nat, a < H.size → ¬ A a → H1[a]? = H[a]?) : vx_L C n d A U H1 := by
  obtain ⟨c, k, i, f, a, cell, h1, h2, h3, h4, h5, h6, h7, h8, h9, h10⟩ := h
  exact ⟨c, k, i, f, a, cell, h1, h2, h3, h4, by rw [hq a (Array.getElem?_eq_some_iff.mp h5).1 h10]; exact h5, h6, h7, h8, h9, h10⟩
theorem vx_L.narrow {C n d : String} {A B : Nat → Prop} {U : State} {H : Heap} (h : vx_L C n d A U H) (hAB : ∀ q, B q → A q) : vx_L C n d B U H := by
  obtain ⟨c, k, i, f, a, cell, h1, h2, h3, h4, h5, h6, h7, h8, h9, h10⟩ := h
  exact ⟨c, k, i, f, a, cell, h1, h2, h3, h4, h5, h6, h7, h8, h9, fun z => h10 (hAB _ z)⟩
theorem vx_L.word {C n d : String} {A : Nat → Prop} {s : State} {args : Array Value} (h : vx_L C n d A s s.heap) : (Cond.laysStatic C n d).before args s = true := by
  obtain ⟨c, k, i, f, a, cell, h1, h2, h3, h4, h5, h6, h7, h8, h9, -⟩ := h
  show (Cond.laysStatic C n d).holds args s none s [] = true
  exact Cond.laysStatic_of h1 h2 h3 h4 h5 h6 h7 h8 h9
/-- .. and what it holds: null or some reference -/
def vx_Zq (C n d : String) (A : Nat → Prop) (U : State) (H : Heap) : Prop := va_Zq C n d A U H ∧ vx_L C n d A U H
theorem vx_Zq.moved {C n d : String} {A : Nat → Prop} {u U : State} {H : Heap} (hvm : u.vm.Alike U.vm) (h : vx_Zq C n d A u H) : vx_Zq C n d A U H := ⟨va_Zq.moved hvm h.1, vx_L.moved hvm h.2⟩
theorem vx_Zq.kept {C n d : String} {A : Nat → Prop} {U : State} {H H1 : Heap} (h : vx_Zq C n d A U H) (hq : ∀ a : Nat, a < H.size → ¬ A a → H1[a]? = H[a]?) : vx_Zq C n d A U H1 := ⟨va_Zq.kept h.1 hq, vx_L.kept h.2 hq⟩
theorem vx_Zq.narrow {C n d : String} {A B : Nat → Prop} {U : State} {H : Heap} (h : vx_Zq C n d A U H) (hAB : ∀ q, B q → A q) : vx_Zq C n d B U H := ⟨va_Zq.narrow h.1 hAB, vx_L.narrow h.2 hAB⟩
theorem vx_Zqof {args : Array Value} {s : State} {C n d : String} {A : Nat → Prop} (hl : (Cond.laysStatic C n d).before args s = true) (hini : (Cond.initialized C).before args s = true) (h : (Cond.isRef (.static C n d)).before args s = true) (hA : ∀ a : Nat, a < s.heap.size → ¬ A a) : vx_Zq C n d A s s.heap := by
  refine ⟨va_Zqof hl hini h hA, ?_⟩
  obtain ⟨c, k, i, f, a, cell, h1, h2, h3, h4, h5, h6, h7, h8, h9⟩ := Cond.laysStatic_spec hl
  exact ⟨c, k, i, f, a, cell, h1, h2, h3, h4, h5, h6, h7, h8, h9, hA a (Array.getElem?_eq_some_iff.mp h5).1⟩
theorem vx_isRef {C n d : String} {v : Value} {A : Nat → Prop} {s : State} {args : Array Value} (h : va_Z C n d v A s s.heap) (hv : v.isRef = true) : (Cond.isRef (.static C n d)).before args s = true := by
  obtain ⟨cf, kf, fi, f, a, cell, h1, h2, h3, h4, h5, h6, h7, -⟩ := h
  have he : (Term.static C n d).eval args s none [] s = some v := by
    simp [Term.eval, State.fieldNamed?, h1, h2, h4, h5, h6, h7]
  simp only [Cond.before, Cond.holds, Cond.value, he]
  cases v <;> simp_all [Value.isRef]
theorem vx_isRefq {C n d : String} {A : Nat → Prop} {s : State} {args : Array Value} (h : va_Zq C n d A s s.heap) : (Cond.isRef (.static C n d)).before args s = true := by
  rcases h with h | ⟨t, h⟩
  · exact vx_isRef h rfl
  · exact vx_isRef h rfl
/-- the same frame, seen from here: as if the method were called anew in this heap -/
theorem vx_rebase {T : State} (X : Stand p l e R s m args below meth c T locs cells slots) {R' : Room} (hf : R'.frames ≤ R.frames) (hl : R'.locals ≤ R.locals) (hc : cells + R'.cells ≤ R.cells) (hs : slots + R'.slots ≤ R.slots) :
    Stand p l e R' ((T.setVm s.vm).setFrames (.invoking m args :: below)) m args below meth c T [] 0 0 := by
  have htop : (T.setVm s.vm).topJava?.isSome := X.here.top
  have hF : ((T.setVm s.vm).setFrames (.invoking m args :: below)).frames = .invoking m args :: below := State.frames_setFrames _ (State.cur_lt_of_top htop)
  obtain ⟨g₀, hg0⟩ := Option.isSome_iff_exists.mp htop
  obtain ⟨r, hr⟩ := State.topJava?_eq_some.mp hg0
  have hl9 : e.platform.stackLimits (T.setVm s.vm).me = e.platform.stackLimits s.me := X.limits
  have hb9 : (T.setVm s.vm).me.stackBytes = s.me.stackBytes := X.bytes
  refine ⟨X.admits, X.cas, X.clock, hF, ?_, X.hears, X.method, X.code, X.here, X.tail, X.warmed, ?_, ?_, ?_⟩
  · have h := X.room
    have hU : ((T.setVm s.vm).setFrames (.invoking m args :: below)).localsInUse = s.localsInUse := by
      rw [State.localsInUse_invoking hF (meth := meth) (c := c) X.method X.code, State.localsInUse_invoking X.frames X.method X.code]
    simp only [State.hasRoom, Bool.and_eq_true, decide_eq_true_eq] at h ⊢
    obtain ⟨⟨⟨⟨h1, h2, h3, h4, h5, h6⟩, h7⟩, h8⟩, h9⟩ := h
    rw [X.frames, List.length_cons] at h2 h3
    have q1 := X.heapSize
    have q2 := X.used
    simp only [hF, hU, List.length_cons, State.stackLimits_setFrames, State.stackBytes_setFrames, hl9, hb9]
    refine ⟨⟨⟨⟨by omega, by omega, by omega, by omega, by omega, h6⟩, ?_⟩, ?_⟩, X.book⟩
    · show T.heap.size + R'.cells ≤ e.platform.maxCells
      omega
    · show T.slotsUsed + R'.slots ≤ e.platform.maxSlots
      omega
  · rw [State.stackLimits_setFrames]; rfl
  · rw [State.stackBytes_setFrames]; rfl
  · refine ⟨?_, Nat.le_refl _, Nat.le_refl _, ?_, ?_, fun a c9 h9 => ⟨c9, h9, rfl, rfl, fun _ _ => rfl⟩⟩
    · obtain ⟨t, ht, -⟩ := State.frames_cons hr
      show T.setVm s.vm = { ((T.setVm s.vm).setFrames (.invoking m args :: below)).setFrames (T.setVm s.vm).frames with heap := T.heap, slotsUsed := T.slotsUsed }
      rw [State.setFrames_setFrames, State.setFrames_self ht]
      rfl
    · show T.slotsUsed = T.slotsUsed + ((T.heap.toList.drop T.heap.size).map (·.slots.size)).sum
      rw [List.drop_eq_nil_of_le (Nat.le_of_eq Array.length_toList)]
      rfl
    · show ((T.heap.toList.drop T.heap.size).map (·.slots.size)).sum ≤ 0
      rw [List.drop_eq_nil_of_le (Nat.le_of_eq Array.length_toList)]
      exact Nat.le_refl _
/-- 'throw new E()': new; dup; invokespecial; athrow -/
theorem vx_throw0 {cc : ByteArray} {pc : Nat} (hexec : p.tables.exec = Jvm.exec) (hb : c.code = cc) (hl : l.stackTraces = false) {own cls : String} {names : List String} {ik ic mc ms : Nat} {A : Nat → Prop}
    (hown : s.vm.findClass own = some m.cls) (hcls : Bundle.fit cls = true) (hnames : ∀ n ∈ names, Bundle.fit n = true)
    (hk : (Cond.classLink own ik cls).before args s = true) (hini : (Cond.initialized cls).before args s = true) (hat : ∀ w ∈ vx_at0 own ic cls names, w.before args s = true)
    (hgood : ∀ w ∈ Cond.classLink own ik cls :: Cond.initialized cls :: vx_at0 own ic cls names, vx_ot w = true)
    (hU : vx_Zq Bundle.tN "UNASSIGNED_STACK" Bundle.steD A s s.heap) (hN : vx_Zq Bundle.tN "SUPPRESSED_SENTINEL" Bundle.listD A s s.heap) (hS : va_S A s.heap H locs) (hsize : ls.size = c.maxLocals)
    (d0 : decode cc pc = .ok (.new ik, 3)) (d3 : decode cc (pc + 3) = .ok (.dup, 1)) (d4 : decode cc (pc + 4) = .ok (.invokespecial ic, 3)) (d7 : decode cc (pc + 7) = .ok (.athrow, 1))
    (hout : ∀ x ∈ c.exceptionTable.toList, covers x (pc + 7) = false)
    (hRframes : names.length + 3 < R.frames) (hRlocals : (rest.map fun v => v.category).sum + (13 * (names.length + 1) + 42) ≤ R.locals) (hRcells : cells + 1 ≤ R.cells) (hRslots : slots + 6 ≤ R.slots) (hlocks : meth.locks = false)
    (hx : ∀ t : State, s.vm.Alike t.vm → H.size ≤ t.heap.size → (∀ q : Nat, q < H.size → t.heap[q]? = H[q]?) → XC cls s t)
    (hf : ∀ z ∈ locs, free z.base) (hc : cells + 1 ≤ mc) (hs : slots + 6 ≤ ms) :
    W p l e R s m args below meth c H locs cells slots (vx_MQ below Qc XC args s mc ms free) (F0 m pc ls rest) := by
  intro T hT X
  have htr : e.platform.stackTraces = false := (show e.platform.stackTraces = l.stackTraces by rw [X.admits.platform]).trans hl
  have Y := vx_rebase X (R' := { frames := R.frames, locals := R.locals, cells := 1, slots := 6 }) (Nat.le_refl _) (Nat.le_refl _) hRcells hRslots
  obtain ⟨s', hA⟩ : ∃ z, z = (T.setVm s.vm).setFrames (.invoking m args :: below) := ⟨_, rfl⟩
  rw [← hA] at Y
  have hvm : s'.vm = s.vm := by rw [hA]; rfl
  have hhp : s'.heap = H := by rw [hA]; exact hT
  have hW0 : s.WarmedH s'.vm := by rw [hvm]; exact State.WarmedH.refl s
  have hat' : ∀ w ∈ vx_at0 own ic cls names, w.before args s' = true := fun w hw => vx_ot_at hW0 hvm.symm (hgood w (List.mem_cons_of_mem _ (List.mem_cons_of_mem _ hw))) (hat w hw)
  have hk' : (Cond.classLink own ik cls).before args s' = true := vx_ot_at hW0 hvm.symm (hgood _ List.mem_cons_self) hk
  have hini' : (Cond.initialized cls).before args s' = true := vx_ot_at hW0 hvm.symm (hgood _ (List.mem_cons_of_mem _ List.mem_cons_self)) hini
  have hU' : vx_Zq Bundle.tN "UNASSIGNED_STACK" Bundle.steD A s' s'.heap := by rw [hhp]; exact vx_Zq.moved hW0.alike (hU.kept hS.2.1)
  have hN' : vx_Zq Bundle.tN "SUPPRESSED_SENTINEL" Bundle.listD A s' s'.heap := by rw [hhp]; exact vx_Zq.moved hW0.alike (hN.kept hS.2.1)
  have h : ∀ w ∈ Bundle.ownAtoms0 own ic cls names, w.before args s' = true := vx_own hat' (vx_isRefq hU'.1) (vx_isRefq hN'.1) hU'.2.word hN'.2.word
  have hown' : s'.vm.findClass own = some m.cls := by rw [hvm]; exact hown
  have hins : (Cond.instantiable cls 6).before args s' = true := h _ (by simp [Bundle.ownAtoms0])
  obtain ⟨vm₁, cX, kX, hfX, hkX, -, -, X₁, st1⟩ := Y.newCold hexec (own := own) (C := cls) (index := ik) (n := 6) hown' hk' hins hini'
    (g := F0 m pc ls rest) rfl (by rw [hb]; exact d0) (Nat.le_refl _) (Nat.le_refl _)
  generalize hT1 : (T.setVm vm₁).pushCell { cls := cX, slots := kX.instanceTypes.map defaultValue, vm := .none } = T1 at X₁ st1
  have hcat : (Value.ref T.heap.size).category = 1 := rfl
  have hcellA : T1.heap[T.heap.size]? = some (freshCell cX kX) := by rw [← hT1]; exact State.heap_pushCell_size _ _
  have d3' : decode c.code (pc + 3) = .ok (.dup, 1) := by rw [hb]; exact d3
  obtain ⟨U, hsteps, hrun, hend, hW, hsame, ce, hce, hO⟩ := X₁.ctorThrow0 hexec htr (own := own) (cls := cls) (names := names) (ic := ic) hown' hcls hnames h (fun x hx => nomatch hx) hfX hkX hcellA (by rw [hhp, hT]; exact Nat.le_refl _)
    (g := { method := m, pc := pc + 4, locals := ls, stack := .ref T.heap.size :: .ref T.heap.size :: rest, locked := none }) rfl hsize rfl rfl (rest := rest) rfl
    (by rw [hb]; exact d4) (by rw [hb]; exact d7) hout hRframes (by simp only [List.map_cons, List.sum_cons, hcat]; omega) hlocks
  obtain ⟨f1, f2⟩ := vx_frame hsame
  rw [hhp] at f1 f2
  have hWs : s.WarmedH U.vm := State.WarmedH.trans hW0 hW
  have hcl : s.vm.findClass cls = some ce.cls := by
    have h9 := hO.cls
    rw [hvm] at h9
    exact h9
  have hall : s.sameButNew ({ U with vm := s.vm } : State) locs mc ms := by
    subst hA
    obtain ⟨e1, e2⟩ := hsame
    rw [State.setFrames_setFrames] at e1
    have h2 : (T.setVm s.vm).sameButNew ({ U with vm := s.vm } : State) [] (0 + 1) (0 + 6) := ⟨e1, e2⟩
    have h3 := X.same.trans h2
    rw [List.append_nil] at h3
    exact h3.mono hc hs
  refine ⟨U, ?_, .threw T.heap.size, hrun, hend, Or.inr ⟨T.heap.size, rfl, cls, ce, locs, hx U hWs.alike f1 (fun q hq => f2 q hq (fun z hz => nomatch hz)), hce, hO.vm, hcl, hWs, hall, hf⟩⟩
  refine st1 _ ?_
  show Steps p.tables e below (T1.setTop { method := m, pc := pc + 3, locals := ls, stack := .ref T.heap.size :: rest, locked := none }) _
  jvm_step X₁.here [X₁.here.top, hexec, d3', Value.category]
  exact hsteps
/-- 'throw new E("text")': new; dup; ldc; invokespecial; athrow -/
theorem vx_throwS {cc : ByteArray} {pc : Nat} (hexec : p.tables.exec = Jvm.exec) (hb : c.code = cc) (hl : l.stackTraces = false) {own cls text : String} {names : List String} {ik is ic mc ms sa : Nat} {A : Nat → Prop}
    (hown : s.vm.findClass own = some m.cls) (hcls : Bundle.fit cls = true) (hnames : ∀ n ∈ names, Bundle.fit n = true)
    (hk : (Cond.classLink own ik cls).before args s = true) (hini : (Cond.initialized cls).before args s = true) (hstr : vk_R own is text sa s) (hat : ∀ w ∈ vx_atS own ic cls names, w.before args s = true)
    (hgood : ∀ w ∈ Cond.classLink own ik cls :: Cond.initialized cls :: vx_atS own ic cls names, vx_ot w = true)
    (hU : vx_Zq Bundle.tN "UNASSIGNED_STACK" Bundle.steD A s s.heap) (hN : vx_Zq Bundle.tN "SUPPRESSED_SENTINEL" Bundle.listD A s s.heap) (hS : va_S A s.heap H locs) (hsize : ls.size = c.maxLocals)
    (d0 : decode cc pc = .ok (.new ik, 3)) (d3 : decode cc (pc + 3) = .ok (.dup, 1)) (d4 : decode cc (pc + 4) = .ok (.ldc is, 2)) (d6 : decode cc (pc + 6) = .ok (.invokespecial ic, 3)) (d9 : decode cc (pc + 9) = .ok (.athrow, 1))
    (hout : ∀ x ∈ c.exceptionTable.toList, covers x (pc + 9) = false)
    (hRframes : names.length + 3 < R.frames) (hRlocals : (rest.map fun v => v.category).sum + (13 * (names.length + 1) + 43) ≤ R.locals) (hRcells : cells + 1 ≤ R.cells) (hRslots : slots + 6 ≤ R.slots) (hlocks : meth.locks = false)
    (hx : ∀ t : State, s.vm.Alike t.vm → H.size ≤ t.heap.size → (∀ q : Nat, q < H.size → t.heap[q]? = H[q]?) → XC cls s t)
    (hf : ∀ z ∈ locs, free z.base) (hc : cells + 1 ≤ mc) (hs : slots + 6 ≤ ms) :
    W p l e R s m args below meth c H locs cells slots (vx_MQ below Qc XC args s mc ms free) (F0 m pc ls rest) := by
  intro T hT X
  have htr : e.platform.stackTraces = false := (show e.platform.stackTraces = l.stackTraces by rw [X.admits.platform]).trans hl
  have Y := vx_rebase X (R' := { frames := R.frames, locals := R.locals, cells := 1, slots := 6 }) (Nat.le_refl _) (Nat.le_refl _) hRcells hRslots
  obtain ⟨s', hA⟩ : ∃ z, z = (T.setVm s.vm).setFrames (.invoking m args :: below) := ⟨_, rfl⟩
  rw [← hA] at Y
  have hvm : s'.vm = s.vm := by rw [hA]; rfl
  have hhp : s'.heap = H := by rw [hA]; exact hT
  have hW0 : s.WarmedH s'.vm := by rw [hvm]; exact State.WarmedH.refl s
  have hat' : ∀ w ∈ vx_atS own ic cls names, w.before args s' = true := fun w hw => vx_ot_at hW0 hvm.symm (hgood w (List.mem_cons_of_mem _ (List.mem_cons_of_mem _ hw))) (hat w hw)
  have hk' : (Cond.classLink own ik cls).before args s' = true := vx_ot_at hW0 hvm.symm (hgood _ List.mem_cons_self) hk
  have hini' : (Cond.initialized cls).before args s' = true := vx_ot_at hW0 hvm.symm (hgood _ (List.mem_cons_of_mem _ List.mem_cons_self)) hini
  have hU' : vx_Zq Bundle.tN "UNASSIGNED_STACK" Bundle.steD A s' s'.heap := by rw [hhp]; exact vx_Zq.moved hW0.alike (hU.kept hS.2.1)
  have hN' : vx_Zq Bundle.tN "SUPPRESSED_SENTINEL" Bundle.listD A s' s'.heap := by rw [hhp]; exact vx_Zq.moved hW0.alike (hN.kept hS.2.1)
  have h : ∀ w ∈ Bundle.ownAtoms own ic cls names, w.before args s' = true := vx_own hat' (vx_isRefq hU'.1) (vx_isRefq hN'.1) hU'.2.word hN'.2.word
  have hown' : s'.vm.findClass own = some m.cls := by rw [hvm]; exact hown
  have hins : (Cond.instantiable cls 6).before args s' = true := h _ (by simp [Bundle.ownAtoms])
  obtain ⟨vm₁, cX, kX, hfX, hkX, -, -, X₁, st1⟩ := Y.newCold hexec (own := own) (C := cls) (index := ik) (n := 6) hown' hk' hins hini'
    (g := F0 m pc ls rest) rfl (by rw [hb]; exact d0) (Nat.le_refl _) (Nat.le_refl _)
  generalize hT1 : (T.setVm vm₁).pushCell { cls := cX, slots := kX.instanceTypes.map defaultValue, vm := .none } = T1 at X₁ st1
  have hcat : (Value.ref T.heap.size).category = 1 := rfl
  have hcellA : T1.heap[T.heap.size]? = some (freshCell cX kX) := by rw [← hT1]; exact State.heap_pushCell_size _ _
  have d3' : decode c.code (pc + 3) = .ok (.dup, 1) := by rw [hb]; exact d3
  have d4' : decode c.code (pc + 4) = .ok (.ldc is, 2) := by rw [hb]; exact d4
  have hstr' : vk_R own is text sa s' := vk_R.warm hW0 hstr
  obtain ⟨U, hsteps, hrun, hend, hW, hsame, ce, hce, hO⟩ := X₁.ctorThrowS hexec htr (own := own) (cls := cls) (names := names) (ic := ic) hown' hcls hnames h (fun x hx => nomatch hx) hfX hkX hcellA (by rw [hhp, hT]; exact Nat.le_refl _) (msg := .ref sa) rfl
    (g := { method := m, pc := pc + 6, locals := ls, stack := .ref sa :: .ref T.heap.size :: .ref T.heap.size :: rest, locked := none }) rfl hsize rfl rfl (rest := rest) rfl
    (by rw [hb]; exact d6) (by rw [hb]; exact d9) hout hRframes (by simp only [List.map_cons, List.sum_cons, hcat]; omega) hlocks
  obtain ⟨f1, f2⟩ := vx_frame hsame
  rw [hhp] at f1 f2
  have hWs : s.WarmedH U.vm := State.WarmedH.trans hW0 hW
  have hcl : s.vm.findClass cls = some ce.cls := by
    have h9 := hO.cls
    rw [hvm] at h9
    exact h9
  have hall : s.sameButNew ({ U with vm := s.vm } : State) locs mc ms := by
    subst hA
    obtain ⟨e1, e2⟩ := hsame
    rw [State.setFrames_setFrames] at e1
    have h2 : (T.setVm s.vm).sameButNew ({ U with vm := s.vm } : State) [] (0 + 1) (0 + 6) := ⟨e1, e2⟩
    have h3 := X.same.trans h2
    rw [List.append_nil] at h3
    exact h3.mono hc hs
  refine ⟨U, ?_, .threw T.heap.size, hrun, hend, Or.inr ⟨T.heap.size, rfl, cls, ce, locs, hx U hWs.alike f1 (fun q hq => f2 q hq (fun z hz => nomatch hz)), hce, hO.vm, hcl, hWs, hall, hf⟩⟩
  refine st1 _ ?_
  show Steps p.tables e below (T1.setTop { method := m, pc := pc + 3, locals := ls, stack := .ref T.heap.size :: rest, locked := none }) _
  jvm_step X₁.here [X₁.here.top, hexec, d3', Value.category]
  exact X₁.ldcString hexec (own := own) (text := text) (index := is) (a := sa) hown' hstr'.1 hstr'.2
    (g := { method := m, pc := pc + 4, locals := ls, stack := .ref T.heap.size :: .ref T.heap.size :: rest, locked := none }) rfl d4' _ hsteps
/-- 'throw new E("text")', the text by a wide index -/
theorem vx_throwSW {cc : ByteArray} {pc : Nat} (hexec : p.tables.exec = Jvm.exec) (hb : c.code = cc) (hl : l.stackTraces = false) {own cls text : String} {names : List String} {ik is ic mc ms sa : Nat} {A : Nat → Prop}
    (hown : s.vm.findClass own = some m.cls) (hcls : Bundle.fit cls = true) (hnames : ∀ n ∈ names, Bundle.fit n = true)
    (hk : (Cond.classLink own ik cls).before args s = true) (hini : (Cond.initialized cls).before args s = true) (hstr : vk_R own is text sa s) (hat : ∀ w ∈ vx_atS own ic cls names, w.before args s = true)
    (hgood : ∀ w ∈ Cond.classLink own ik cls :: Cond.initialized cls :: vx_atS own ic cls names, vx_ot w = true)
    (hU : vx_Zq Bundle.tN "UNASSIGNED_STACK" Bundle.steD A s s.heap) (hN : vx_Zq Bundle.tN "SUPPRESSED_SENTINEL" Bundle.listD A s s.heap) (hS : va_S A s.heap H locs) (hsize : ls.size = c.maxLocals)
    (d0 : decode cc pc = .ok (.new ik, 3)) (d3 : decode cc (pc + 3) = .ok (.dup, 1)) (d4 : decode cc (pc + 4) = .ok (.ldc_w is, 3)) (d7 : decode cc (pc + 7) = .ok (.invokespecial ic, 3)) (d10 : decode cc (pc + 10) = .ok (.athrow, 1))
    (hout : ∀ x ∈ c.exceptionTable.toList, covers x (pc + 10) = false)
    (hRframes : names.length + 3 < R.frames) (hRlocals : (rest.map fun v => v.category).sum + (13 * (names.length + 1) + 43) ≤ R.locals) (hRcells : cells + 1 ≤ R.cells) (hRslots : slots + 6 ≤ R.slots) (hlocks : meth.locks = false)
    (hx : ∀ t : State, s.vm.Alike t.vm → H.size ≤ t.heap.size → (∀ q : Nat, q < H.size → t.heap[q]? = H[q]?) → XC cls s t)
    (hf : ∀ z ∈ locs, free z.base) (hc : cells + 1 ≤ mc) (hs : slots + 6 ≤ ms) :
    W p l e R s m args below meth c H locs cells slots (vx_MQ below Qc XC args s mc ms free) (F0 m pc ls rest) := by
  intro T hT X
  have htr : e.platform.stackTraces = false := (show e.platform.stackTraces = l.stackTraces by rw [X.admits.platform]).trans hl
  have Y := vx_rebase X (R' := { frames := R.frames, locals := R.locals, cells := 1, slots := 6 }) (Nat.le_refl _) (Nat.le_refl _) hRcells hRslots
  obtain ⟨s', hA⟩ : ∃ z, z = (T.setVm s.vm).setFrames (.invoking m args :: below) := ⟨_, rfl⟩
  rw [← hA] at Y
  have hvm : s'.vm = s.vm := by rw [hA]; rfl
  have hhp : s'.heap = H := by rw [hA]; exact hT
  have hW0 : s.WarmedH s'.vm := by rw [hvm]; exact State.WarmedH.refl s
  have hat' : ∀ w ∈ vx_atS own ic cls names, w.before args s' = true := fun w hw => vx_ot_at hW0 hvm.symm (hgood w (List.mem_cons_of_mem _ (List.mem_cons_of_mem _ hw))) (hat w hw)
  have hk' : (Cond.classLink own ik cls).before args s' = true := vx_ot_at hW0 hvm.symm (hgood _ List.mem_cons_self) hk
  have hini' : (Cond.initialized cls).before args s' = true := vx_ot_at hW0 hvm.symm (hgood _ (List.mem_cons_of_mem _ List.mem_cons_self)) hini
  have hU' : vx_Zq Bundle.tN "UNASSIGNED_STACK" Bundle.steD A s' s'.heap := by rw [hhp]; exact vx_Zq.moved hW0.alike (hU.kept hS.2.1)
  have hN' : vx_Zq Bundle.tN "SUPPRESSED_SENTINEL" Bundle.listD A s' s'.heap := by rw [hhp]; exact vx_Zq.moved hW0.alike (hN.kept hS.2.1)
  have h : ∀ w ∈ Bundle.ownAtoms own ic cls names, w.before args s' = true := vx_own hat' (vx_isRefq hU'.1) (vx_isRefq hN'.1) hU'.2.word hN'.2.word
  have hown' : s'.vm.findClass own = some m.cls := by rw [hvm]; exact hown
  have hins : (Cond.instantiable cls 6).before args s' = true := h _ (by simp [Bundle.ownAtoms])
  obtain ⟨vm₁, cX, kX, hfX, hkX, -, -, X₁, st1⟩ := Y.newCold hexec (own := own) (C := cls) (index := ik) (n := 6) hown' hk' hins hini'
    (g := F0 m pc ls rest) rfl (by rw [hb]; exact d0) (Nat.le_refl _) (Nat.le_refl _)
  generalize hT1 : (T.setVm vm₁).pushCell { cls := cX, slots := kX.instanceTypes.map defaultValue, vm := .none } = T1 at X₁ st1
  have hcat : (Value.ref T.heap.size).category = 1 := rfl
  have hcellA : T1.heap[T.heap.size]? = some (freshCell cX kX) := by rw [← hT1]; exact State.heap_pushCell_size _ _
  have d3' : decode c.code (pc + 3) = .ok (.dup, 1) := by rw [hb]; exact d3
  have d4' : decode c.code (pc + 4) = .ok (.ldc_w is, 3) := by rw [hb]; exact d4
  have hstr' : vk_R own is text sa s' := vk_R.warm hW0 hstr
  obtain ⟨U, hsteps, hrun, hend, hW, hsame, ce, hce, hO⟩ := X₁.ctorThrowS hexec htr (own := own) (cls := cls) (names := names) (ic := ic) hown' hcls hnames h (fun x hx => nomatch hx) hfX hkX hcellA (by rw [hhp, hT]; exact Nat.le_refl _) (msg := .ref sa) rfl
    (g := { method := m, pc := pc + 7, locals := ls, stack := .ref sa :: .ref T.heap.size :: .ref T.heap.size :: rest, locked := none }) rfl hsize rfl rfl (rest := rest) rfl
    (by rw [hb]; exact d7) (by rw [hb]; exact d10) hout hRframes (by simp only [List.map_cons, List.sum_cons, hcat]; omega) hlocks
  obtain ⟨f1, f2⟩ := vx_frame hsame
  rw [hhp] at f1 f2
  have hWs : s.WarmedH U.vm := State.WarmedH.trans hW0 hW
  have hcl : s.vm.findClass cls = some ce.cls := by
    have h9 := hO.cls
    rw [hvm] at h9
    exact h9
  have hall : s.sameButNew ({ U with vm := s.vm } : State) locs mc ms := by
    subst hA
    obtain ⟨e1, e2⟩ := hsame
    rw [State.setFrames_setFrames] at e1
    have h2 : (T.setVm s.vm).sameButNew ({ U with vm := s.vm } : State) [] (0 + 1) (0 + 6) := ⟨e1, e2⟩
    have h3 := X.same.trans h2
    rw [List.append_nil] at h3
    exact h3.mono hc hs
  refine ⟨U, ?_, .threw T.heap.size, hrun, hend, Or.inr ⟨T.heap.size, rfl, cls, ce, locs, hx U hWs.alike f1 (fun q hq => f2 q hq (fun z hz => nomatch hz)), hce, hO.vm, hcl, hWs, hall, hf⟩⟩
  refine st1 _ ?_
  show Steps p.tables e below (T1.setTop { method := m, pc := pc + 3, locals := ls, stack := .ref T.heap.size :: rest, locked := none }) _
  jvm_step X₁.here [X₁.here.top, hexec, d3', Value.category]
  exact X₁.ldcStringW hexec (own := own) (text := text) (index := is) (a := sa) hown' hstr'.1 hstr'.2
    (g := { method := m, pc := pc + 4, locals := ls, stack := .ref T.heap.size :: .ref T.heap.size :: rest, locked := none }) rfl d4' _ hsteps
end Ends
section Bodies
variable {l : Launch}
theorem vx_ofW {y : MethodName} {ws ws' : List Cond} {rm : Room} {Pc : Array Value → State → Prop} {Qc : Array Value → State → Outcome → State → Prop} {XC : String → State → State → Prop} {mc ms : Nat} {free : Addr → Prop} {cc : ByteArray} {maxL : Nat} {ret : Option FieldType}
    (hy : plainName y.cls = true) (hw : ws = Cond.code y cc maxL ret :: ws')
    (body : ∀ p e s m args below meth c s₁, BodyLoose p l y (headSpec ws rm) cc maxL ret e s m args below meth c s₁ → c.maxLocals = maxL → (∀ x ∈ c.exceptionTable.toList, False) → Pc args s →
      W p l e (headSpec ws rm).room s m args below meth c s.heap [] 0 0 (vx_MQ below Qc XC args s mc ms free) (entryFrame m args maxL)) : vx_Met l y ws rm Pc Qc XC mc ms free := by
  refine MetFree.of_bodyS (code := cc) (maxLocals := maxL) (ret := ret) hy ?_ ?_
  · intro args s m h hn
    obtain ⟨meth, c, h1, h2, h3, h4, h5, h6, -, -⟩ := Cond.code_spec hn (atoms_spec (ws := ws) h _ (by rw [hw]; exact List.mem_cons_self))
    exact ⟨meth, c, h1, h2, h3, h4, h5, h6⟩
  · intro p e s m args below meth c s₁ B hml hP _
    have hh0 : s₁.heap = s.heap := by rw [B.state]; rfl
    have ht : ∀ x ∈ c.exceptionTable.toList, False := by
      obtain ⟨meth9, c9, h1, h2, -, -, -, -, h7, -⟩ := Cond.code_spec B.named (atoms_spec (ws := ws) B.pre _ (by rw [hw]; exact List.mem_cons_self))
      cases Option.some.inj (h1.symm.trans B.method)
      cases Option.some.inj (h2.symm.trans (Stand.of_body B).code)
      intro x hx
      rw [Array.isEmpty_iff.mp h7] at hx
      cases hx
    obtain ⟨t, a1, o, b1, b2, b3⟩ := body p e s m args below meth c s₁ B hml ht hP s₁ hh0 (Stand.of_body B)
    exact ⟨t, o, a1, b1, b2, b3⟩
/-- the table of a body with handlers -/
theorem vx_table {p : Program} {x y : MethodName} {S : Spec} {cc bytes : ByteArray} {maxL maxL' : Nat} {ret ret' : Option FieldType} {e : Env} {s s₁ : State} {m : MethodId} {args : Array Value} {below : List Frame} {meth : Method} {c : Code} {hh : List (Nat × Nat × Nat × Nat)}
    (B : BodyLoose p l y S cc maxL ret e s m args below meth c s₁) (h : (Cond.codeWith y bytes maxL' ret' hh).before args s = true) : c.exceptionTable.toList = tableOf hh := by
  obtain ⟨m9, meth9, c9, hn9, h1, h2, -, -, h6, -⟩ := Cond.codeWith_spec h
  cases Option.some.inj (hn9.symm.trans B.named)
  cases Option.some.inj (h1.symm.trans B.method)
  cases Option.some.inj (h2.symm.trans (Stand.of_body B).code)
  rw [← h6, table_eq]
end Bodies
end VXA
/-! ===== END ===== -/
/-! ===== BEGIN a static call of a method with an exception table ===== -/
section VXS
variable {p : Program} {l : Launch} {e : Env} {R : Room} {s : State} {m : MethodId} {args : Array Value} {below : List Frame} {meth : Method} {c : Code} {T : State} {H : Heap} {locs : List Loc} {cells slots : Nat}
abbrev vx_CSW (R : Room) (s : State) (args : Array Value) (own : String) (index : Nat) (y : MethodName) (bytes : ByteArray) (maxL : Nat) (ret : Option FieldType) (hh : List (Nat × Nat × Nat × Nat)) (ws : List Cond) (rm : Room) (mc ms n : Nat) : Prop :=
  (rm.cells = mc ∧ rm.slots = ms ∧ rm.frames + 1 ≤ R.frames ∧ 8 + (maxL + 11) + rm.locals ≤ R.locals ∧ (∀ w ∈ ws, ∀ (a' : Array Value) (U : State), s.WarmedH U.vm → w.before a' U = true) ∧ Cond.codeWith y bytes maxL ret hh ∈ ws) ∧
  (Cond.codeWith y bytes maxL ret hh).before args s = true ∧ (Cond.initialized y.cls).before args s = true ∧ (y.cls ≠ "java/lang/invoke/MethodHandle" ∧ y.cls ≠ "java/lang/invoke/VarHandle") ∧
  (∀ sig, parseMethodDescriptor y.desc = some sig → n = sig.parameters.length) ∧ (Cond.methodLink own index y).before args s = true ∧ (Cond.static y).before args s = true
theorem vx_cwSW {own : String} {index maxL mc ms : Nat} {y : MethodName} {bytes : ByteArray} {ret : Option FieldType} {hh : List (Nat × Nat × Nat × Nat)} {Ts ws ws' : List Cond} {rm : Room} (n : Nat) (ht : ∀ w ∈ Ts, w.before args s = true) (hT : GoodIn Ts (va_wsS own index y ws)) (hw : ws = Cond.codeWith y bytes maxL ret hh :: ws') (hrc : rm.cells = mc) (hrs : rm.slots = ms)
    (hd : y.cls ≠ "java/lang/invoke/MethodHandle" ∧ y.cls ≠ "java/lang/invoke/VarHandle" ∧ (parseMethodDescriptor y.desc).map (fun d => d.parameters.length) = some n) (hR : rm.frames + 1 ≤ R.frames ∧ 8 + (maxL + 11) + rm.locals ≤ R.locals) :
    vx_CSW R s args own index y bytes maxL ret hh ws rm mc ms n := by
  have ok : ∀ w ∈ va_wsS own index y ws, w.before args s = true := fun w h => ht w (hT w h).1
  have hG : GoodIn Ts ws := fun w h => hT w (by unfold va_wsS; exact List.mem_append_right _ h)
  have hc : Cond.codeWith y bytes maxL ret hh ∈ ws := by rw [hw]; exact List.mem_cons_self
  refine ⟨⟨hrc, hrs, hR.1, hR.2, pay_in ht hG, hc⟩, ht _ (hG _ hc).1, ok _ (by simp [va_wsS]), ⟨hd.1, hd.2.1⟩, fun sig h => ?_, ok _ (by simp [va_wsS]), ok _ (by simp [va_wsS])⟩
  have h2 := hd.2.2
  rw [h] at h2
  exact (Option.some.inj h2).symm
theorem vx_callSW (X : Stand p l e R s m args below meth c T locs cells slots) (hexec : p.tables.exec = Jvm.exec) {own : String} {index : Nat} {y : MethodName} {bytes : ByteArray} {maxL : Nat} {ret : Option FieldType} {hh : List (Nat × Nat × Nat × Nat)}
    (hown : s.vm.findClass own = some m.cls) (hlink : (Cond.methodLink own index y).before args s = true) (hstat : (Cond.static y).before args s = true) (hinit : (Cond.initialized y.cls).before args s = true)
    (hcode : (Cond.codeWith y bytes maxL ret hh).before args s = true) (hy : y.cls ≠ "java/lang/invoke/MethodHandle" ∧ y.cls ≠ "java/lang/invoke/VarHandle")
    {W9 : Nat} {Pre : Pt → Array Value → Prop} {Post : Pt → Array Value → Option Value → Pt → Prop} (hK : Back l R p e below s args y 3 W9 Pre Post)
    {g : JFrame} (hg : g.method = m) (hsize : g.locals.size = c.maxLocals) {argsL rest : List Value} (hlen : ∀ sig, parseMethodDescriptor y.desc = some sig → argsL.length = sig.parameters.length)
    (hstack : g.stack = argsL.reverse ++ rest) (hW : 2 * g.monitorRoom + (rest.map fun v => v.category).sum ≤ W9) (hdg : decode c.code g.pc = .ok (.invokestatic index, 3))
    (hpre : ∀ vm₁, s.WarmedH vm₁ → Pre ⟨T.setVm vm₁, locs, cells, slots⟩ argsL.toArray) :
    ∃ (v : Option Value) (vm₁ : Vm) (B : Pt), s.WarmedH vm₁ ∧ Stand p l e R s m args below meth c B.U B.locs B.cells B.slots ∧ Post ⟨T.setVm vm₁, locs, cells, slots⟩ argsL.toArray v B ∧
      ∀ target, Steps p.tables e below (B.U.setTop { g with pc := g.pc + 3, stack := v.toList ++ rest }) target → Steps p.tables e below (T.setTop g) target := by
  obtain ⟨mk, methM, cM, hnamed, hmethM, -, -, -, -, -, -, hsigM⟩ := Cond.codeWith_spec hcode
  have hstatic : methM.isStatic = true := Cond.static_spec hnamed hmethM hstat
  obtain ⟨kP, hkP, -⟩ := className_of_methodNamed hnamed
  have hinitP : kP.init = .initialized := Cond.initialized_spec (findClass_of_methodNamed hnamed) hkP hinit
  obtain ⟨vm₁, X₁, hstep₁⟩ := X.invokestatic hexec hown hlink hnamed hmethM hstatic hkP hinitP hy (g := g) hg (argsL := argsL) (rest := rest) (hlen _ hsigM) hstack hdg
  obtain ⟨v, B, X', hpost, hsteps⟩ := hK m meth c ⟨T.setVm vm₁, locs, cells, slots⟩ { g with stack := rest } (.invokestatic index) mk argsL.toArray X₁ hg hsize hdg hW (X₁.named hnamed) (hpre vm₁ X₁.warmed)
  exact ⟨v, vm₁, B, X₁.warmed, X', hpost, fun target h => hstep₁ _ fun acts => by rw [doInvoke_state]; exact hsteps.trans h⟩
theorem vx_runSW {y : MethodName} {bytes cc : ByteArray} {maxL nL mc ms n index : Nat} {ret : Option FieldType} {hh : List (Nat × Nat × Nat × Nat)} {ws : List Cond} {rm : Room} {Pc : Array Value → State → Prop} {Qc : Array Value → State → Outcome → State → Prop} {free : Addr → Prop} {Ts : List Cond} {own : String} {As rest : List Value} {g : JFrame}
    (S : CallFix p m c cc nL s args Ts own) (hM : Met l y ws rm Pc Qc mc ms free) (cw : vx_CSW R s args own index y bytes maxL ret hh ws rm mc ms n) (hp : PreS s H Pc As)
    (hg : g.method = m) (hn : As.length = n) (hsize : g.locals.size = nL) (hstack : g.stack = As.reverse ++ rest) (hW : 2 * g.monitorRoom + (rest.map fun v => v.category).sum ≤ 8) (hdg : decode cc g.pc = .ok (.invokestatic index, 3)) (hf : cells + mc ≤ R.cells ∧ slots + ms ≤ R.slots) :
    va_Run p l e R s m args below meth c H locs cells slots mc ms g rest (Qc As.toArray) (free) := by
  obtain ⟨⟨hrc, hrs, hfr, hlo, hws, hcw⟩, hcode, hini, hy, hlen, hl, hstt⟩ := cw
  have hK : Back l R p e below s args y 3 8 (PreOf R mc ms Pc) (PostOf Qc mc ms free) := va_backW (hh := hh) (bytes := bytes) (maxL := maxL) (ret := ret) hM hp.1 hrc hrs hfr hlo hws hcw (fun a' U hW => word_at hW (Or.inl (by first | rfl | simp [Cond.onTables, Cond.keeps, Cond.steady])) hini)
  obtain ⟨hx, hb, hml, ho, -⟩ := S
  intro T hT X
  obtain ⟨v, vm₁, ⟨U', l2, c2, s2⟩, hW₁, X', ⟨g', mk, t, L, e1, e2, hq, h1, hL, h2, h3⟩, st⟩ := vx_callSW X hx (hh := hh) (bytes := bytes) (maxL := maxL) (ret := ret) ho hl hstt hini hcode hy hK hg (hsize.trans hml.symm) (argsL := As) (rest := rest) (fun sig h => hn.trans (hlen sig h)) hstack hW (by rw [hb]; exact hdg)
    (fun vm₁ hW₁ => ⟨hf.1, hf.2, hp.2 (T.setVm vm₁) hT hW₁⟩)
  dsimp only [Pt.U, Pt.locs, Pt.cells, Pt.slots] at X' e1 e2 h1 h2 h3 st
  subst h1; subst h2; subst h3
  exact ⟨v, (T.setVm vm₁).calling g' mk As.toArray, t, U', L, hT, X', hL, e1, e2, hq, st⟩
/-- not caught here, past rows that name other classes: it goes on to the caller -/
theorem vx_outP {p : Program} {l : Launch} {e : Env} {R : Room} {s : State} {m : MethodId} {args : Array Value} {below : List Frame} {meth : Method} {c : Code} {H : Heap} {locs : List Loc} {cells slots : Nat} {free : Addr → Prop} {ls : Array Slot} {rest : List Value} {Qc : Array Value → State → Outcome → State → Prop} {XC : String → State → State → Prop}
    {pc : Nat} {own E : String} {ce : Cell} {q : Addr} {mc ms : Nat} (hown : s.vm.findClass own = some m.cls) (hlocks : meth.locks = false)
    (hpass : ∀ z ∈ c.exceptionTable.toList, covers z pc = false ∨ (z.catchType ≠ 0 ∧ ∃ nm : String, (Cond.classLink own z.catchType nm).before args s = true ∧ va_Nc E nm s)) (hcell : H[q]? = some ce) (hv : ce.vm = .none) (hcl : s.vm.findClass E = some ce.cls)
    (hx : ∀ t : State, t.heap = H → s.vm.Alike t.vm → XC E s t) (hf : ∀ z ∈ locs, free z.base) (hc : cells ≤ mc) (hs : slots ≤ ms) :
    vx_W p l e R s m args below meth c H locs cells slots (vx_MQ below Qc XC args s mc ms free) (F0 m pc ls rest) q := by
  intro T hT X
  have hpl : e.platform.magicAccessors = ({} : Platform).magicAccessors := by rw [X.admits.platform]
  obtain ⟨vm', hW', X', st⟩ := X.outThrough hlocks q (g := F0 m pc ls rest) rfl rfl rfl (cell := ce) (by rw [hT]; exact hcell) (by rw [hv]; rfl)
    (by obtain ⟨k9, h9, -⟩ := Vm.findClass_spec hcl; exact ⟨k9, h9⟩) (fun z hz => by
      rcases hpass z hz with h | ⟨hz0, nm, hl1, hn1⟩
      · exact Or.inl h
      · obtain ⟨c6, hc6, hcl6⟩ := Cond.classLink_spec hown hl1 e.platform hpl
        obtain ⟨a8, b8, h1, h2, h3⟩ := hn1
        cases Option.some.inj (h1.symm.trans hcl)
        cases Option.some.inj (h2.symm.trans hc6)
        exact Or.inr ⟨hz0, _, hcl6, h3⟩)
  obtain ⟨g₀, hfr⟩ := X'.frames_eq
  have hcell9 : ((T.setVm vm').setFrames (.throwing q :: below)).heap[q]? = some ce := by
    show T.heap[q]? = some ce
    rw [hT]; exact hcell
  have hend : Ended ((T.setVm vm').setFrames (.throwing q :: below)) below (.threw q) := State.frames_setFrames _ (State.cur_lt_of_frames hfr)
  refine ⟨(T.setVm vm').setFrames (.throwing q :: below), ?_, .threw q, X'.here.running, hend, Or.inr ⟨q, rfl, E, ce, locs, hx _ hT (X'.ends _).1.alike, hcell9, hv, hcl, (X'.ends _).1, (X'.ends _).2.mono hc hs, hf⟩⟩
  rw [X.pushThrowing_eq]
  exact st
/-- a thing of a world lies in the heap -/
theorem vx_lt {D : va_G} {cl : List vw_C} {ws : va_W} {H1 : Heap} (h : va_P D cl ws H1) {k : Nat} {q : Nat × va_E} (hk : ws[k]? = some q) : q.1 < H1.size := (h k q hk).lt
end VXS
/-! ===== END ===== -/
/-! ===== BEGIN methods with a table of their own: called by a name, returning or throwing ===== -/
section VXH
/-! vx_backW, vx_callVX, vx_callSX, vx_callVW, vx_runVW, vx_runVX, vx_runSX, vx_ofWH follow the same proofs as their sisters above (Free/Laws.lean, Shelf42/LK1.lean); vx_outP calls Shelf42/NT130.lean (outThrough). -/
section
variable {l : Launch} {R : Room} {p : Program} {e : Env} {below : List Frame} {s : State} {sargs : Array Value} {y : MethodName} {len W9 : Nat}
theorem vx_backW {ws : List Cond} {rm : Room} {Pc : Array Value → State → Prop} {Qc : Array Value → State → Outcome → State → Prop} {XC : String → State → State → Prop} {mc ms : Nat} {free : Addr → Prop} {bytes : ByteArray} {maxL : Nat} {ret : Option FieldType} {hh : List (Nat × Nat × Nat × Nat)}
    (hM : vx_Met l y ws rm Pc Qc XC mc ms free) (hblind : FrameBlind Pc) (hrc : rm.cells = mc) (hrs : rm.slots = ms)
    (hframes : rm.frames + 1 ≤ R.frames) (hlocals : W9 + (maxL + 11) + rm.locals ≤ R.locals)
    (hws : ∀ w ∈ ws, ∀ a' U, s.WarmedH U.vm → w.before a' U = true) (hcode : Cond.codeWith y bytes maxL ret hh ∈ ws) (hinit : ∀ a' U, s.WarmedH U.vm → (Cond.initialized y.cls).before a' U = true) :
    vx_Back l R p e below s sargs y len W9 (PreOf R mc ms Pc) (PostOf Qc mc ms free) (vx_Post XC mc ms free) := by
  intro m meth c A g ig mk a X hg hsize hdg hW hn hp
  have h1 : (headSpec ws rm).pre.before a A.U = true := atoms_intro fun w hw => hws w hw _ _ X.warmed
  have h2 : (Cond.codeWith y bytes maxL ret hh).before a A.U = true := hws _ hcode _ _ X.warmed
  have h3 : (Cond.initialized y.cls).before a A.U = true := hinit _ _ X.warmed
  have h4 : A.cells + (headSpec ws rm).room.cells ≤ R.cells := by rw [show (headSpec ws rm).room.cells = mc from hrc]; exact hp.1
  have h5 : A.slots + (headSpec ws rm).room.slots ≤ R.slots := by rw [show (headSpec ws rm).room.slots = ms from hrs]; exact hp.2.1
  have hPc : Pc a (A.U.calling g mk a) := hblind _ _ _ _ hp.2.2
  obtain ⟨U, Ls, c0, s0⟩ := A
  dsimp only [Pt.U, Pt.locs, Pt.cells, Pt.slots] at h1 h2 h3 h4 h5 X hn hPc ⊢
  obtain ⟨m9, methY, cY, hn9, hmY, hcY, -, hlY, -⟩ := Cond.codeWith_spec h2
  cases Option.some.inj (hn9.symm.trans hn)
  obtain ⟨kY, hkY, -⟩ := className_of_methodNamed hn
  have hinitY : kY.init = .initialized := Cond.initialized_spec (findClass_of_methodNamed hn) hkY h3
  have h : At U g.method c below := by rw [hg]; exact X.here
  have hlocals9 : W9 + (maxL + 11) + (headSpec ws rm).room.locals ≤ R.locals := hlocals
  have happ : (headSpec ws rm).appliesLoose y e.platform (U.calling g mk a) = true :=
    Spec.appliesLoose_calling (g := g) h hdg hn hkY hinitY
      (X.room_calling (g := g) (R' := (headSpec ws rm).room) hsize hmY hcY hframes (by rw [hlY]; omega) h4 h5) h1
  obtain ⟨mid, hmid⟩ := h.above
  have hfr : (U.setTop g).frames = (.java g :: mid) ++ below := by rw [State.frames_setTop' g h.top, hmid]; rfl
  obtain ⟨o, s₂, hsteps, -, hend, hq⟩ := Steps.callFree hM p X.admits X.cas X.clock (acts := []) hfr happ hPc trivial
  have hq' : vx_Q Qc XC mc ms free a (U.calling g mk a) o s₂ := hq
  rw [State.frames_setTop' g h.top] at hend
  obtain ⟨g₀, hg0⟩ := Option.isSome_iff_exists.mp h.top
  obtain ⟨r, hr⟩ := State.topJava?_eq_some.mp hg0
  have hr' : (({ U with heap := s₂.heap, slotsUsed := s₂.slotsUsed } : State).setVm s₂.vm).frames = .java g₀ :: r := hr
  rcases hq' with ⟨hqc, L, hfe, hL⟩ | ⟨q, rfl, E, ce, L, hx, hce, hcv, hcl, hW₂, hsm, hL⟩
  · obtain ⟨⟨v, rfl⟩, hW₂, e2, q2, q3, q4, q5, q6⟩ := id hfe
    have e3 : s₂ = ({ (U.calling g mk a).setFrames s₂.frames with heap := s₂.heap, slotsUsed := s₂.slotsUsed } : State).setVm s₂.vm := by
      have : s₂ = ({ s₂ with vm := (U.calling g mk a).vm } : State).setVm s₂.vm := rfl
      rw [e2] at this
      exact this
    obtain ⟨c₂, i₂, len₂, hc₂, hd₂, hf₂⟩ := hend
    have hW' : U.WarmedH s₂.vm := hW₂
    have hcc : c₂ = c := by
      have h1 : s₂.code? g.method = U.code? g.method := by
        rw [State.code?_eq, State.code?_eq, hW'.alike.method?]
      exact Option.some.inj (hc₂.symm.trans (h1.trans h.code))
    subst hcc
    have hlen : len₂ = len := by rw [hdg] at hd₂; cases hd₂; rfl
    subst hlen
    have hs₂ : s₂ = (({ U with heap := s₂.heap, slotsUsed := s₂.slotsUsed } : State).setVm s₂.vm).setTop { g with pc := g.pc + len₂, stack := v.toList ++ g.stack } := by
      refine e3.trans ?_
      rw [hf₂, State.calling_eq h.top, State.setFrames_setFrames, State.setTop_of_frames _ hr', hr]
      rfl
    have hsame : U.sameButNew ({ U with heap := s₂.heap, slotsUsed := s₂.slotsUsed } : State) L mc ms := by
      refine ⟨?_, q2, q3, q4, q5, q6⟩
      obtain ⟨t, ht, -⟩ := State.frames_cons hr
      show ({ U with heap := s₂.heap, slotsUsed := s₂.slotsUsed } : State) = { U.setFrames U.frames with heap := s₂.heap, slotsUsed := s₂.slotsUsed }
      rw [State.setFrames_self ht]
    subst hg
    refine Or.inl ⟨v, ⟨(({ U with heap := s₂.heap, slotsUsed := s₂.slotsUsed } : State).setVm s₂.vm), Ls ++ L, c0 + mc, s0 + ms⟩,
      ⟨X.admits, X.cas, X.clock, X.frames, X.room, X.hears, X.method, X.code, (X.here.setHeapUsed s₂.heap s₂.slotsUsed).setVm hW'.alike, X.tail, State.WarmedH.trans X.warmed hW', X.limits, X.bytes, X.same.trans (hsame.setVm s.vm)⟩,
      ⟨g, mk, s₂, L, rfl, rfl, hqc, rfl, hL, rfl, rfl⟩, ?_⟩
    show Steps p.tables e below _ ((({ U with heap := s₂.heap, slotsUsed := s₂.slotsUsed } : State).setVm s₂.vm).setTop { g with pc := g.pc + len₂, stack := v.toList ++ g.stack })
    rw [← hs₂]
    exact hsteps
  · obtain ⟨e2, q2, q3, q4, q5, q6⟩ := id hsm
    have e3 : s₂ = ({ (U.calling g mk a).setFrames s₂.frames with heap := s₂.heap, slotsUsed := s₂.slotsUsed } : State).setVm s₂.vm := by
      have : s₂ = ({ s₂ with vm := (U.calling g mk a).vm } : State).setVm s₂.vm := rfl
      rw [e2] at this
      exact this
    have hf₂ : s₂.frames = .throwing q :: .java g :: U.frames.tail := hend
    have hW' : U.WarmedH s₂.vm := hW₂
    have hs₂ : s₂ = ((({ U with heap := s₂.heap, slotsUsed := s₂.slotsUsed } : State).setVm s₂.vm).setTop g).pushFrame (.throwing q) := by
      refine e3.trans ?_
      rw [hf₂, State.calling_eq h.top, State.setFrames_setFrames, State.pushFrame, State.frames_setTop _ hr', State.setTop_of_frames _ hr', State.setFrames_setFrames, hr]
      rfl
    have hsame : U.sameButNew ({ U with heap := s₂.heap, slotsUsed := s₂.slotsUsed } : State) L mc ms := by
      refine ⟨?_, q2, q3, q4, q5, q6⟩
      obtain ⟨t, ht, -⟩ := State.frames_cons hr
      show ({ U with heap := s₂.heap, slotsUsed := s₂.slotsUsed } : State) = { U.setFrames U.frames with heap := s₂.heap, slotsUsed := s₂.slotsUsed }
      rw [State.setFrames_self ht]
    subst hg
    refine Or.inr ⟨q, ⟨(({ U with heap := s₂.heap, slotsUsed := s₂.slotsUsed } : State).setVm s₂.vm), Ls ++ L, c0 + mc, s0 + ms⟩,
      ⟨X.admits, X.cas, X.clock, X.frames, X.room, X.hears, X.method, X.code, (X.here.setHeapUsed s₂.heap s₂.slotsUsed).setVm hW'.alike, X.tail, State.WarmedH.trans X.warmed hW', X.limits, X.bytes, X.same.trans (hsame.setVm s.vm)⟩,
      ⟨g, mk, s₂, L, E, ce, rfl, rfl, hx, hce, hcv, hcl, rfl, hL, rfl, rfl⟩, ?_⟩
    show Steps p.tables e below _ (((({ U with heap := s₂.heap, slotsUsed := s₂.slotsUsed } : State).setVm s₂.vm).setTop g).pushFrame (.throwing q))
    rw [← hs₂]
    exact hsteps
end
variable {p : Program} {l : Launch} {e : Env} {R : Room} {s : State} {m : MethodId} {args : Array Value} {below : List Frame} {meth : Method} {c : Code} {T : State} {H : Heap} {locs : List Loc} {cells slots : Nat}
theorem vx_callVX (X : Stand p l e R s m args below meth c T locs cells slots) (hexec : p.tables.exec = Jvm.exec) {own C : String} {index : Nat} {y : MethodName} {bytes : ByteArray} {maxL : Nat} {ret : Option FieldType} {hh : List (Nat × Nat × Nat × Nat)}
    (hown : s.vm.findClass own = some m.cls) (hlink : (Cond.methodLink own index y).before args s = true) (hinst : (Cond.instanceMethod y).before args s = true) (hsel : (Cond.selects C y y).before args s = true)
    (hcode : (Cond.codeWith y bytes maxL ret hh).before args s = true) (hy : y.cls ≠ "java/lang/invoke/MethodHandle" ∧ y.cls ≠ "java/lang/invoke/VarHandle")
    {W9 : Nat} {Pre : Pt → Array Value → Prop} {Post : Pt → Array Value → Option Value → Pt → Prop} {PostX : Pt → Array Value → Addr → Pt → Prop} (hK : vx_Back l R p e below s args y 3 W9 Pre Post PostX)
    {b : Addr} {cellB : Cell} (hcell : T.heap[b]? = some cellB) (hobj : cellB.vm.isStatics = false) (hcls : s.vm.findClass C = some cellB.cls)
    {g : JFrame} (hg : g.method = m) (hsize : g.locals.size = c.maxLocals) {argsL rest : List Value} (hlen : ∀ sig, parseMethodDescriptor y.desc = some sig → argsL.length = sig.parameters.length)
    (hstack : g.stack = argsL.reverse ++ .ref b :: rest) (hW : 2 * g.monitorRoom + (rest.map fun v => v.category).sum ≤ W9) (hdg : decode c.code g.pc = .ok (.invokevirtual index, 3))
    (hpre : ∀ vm₁, s.WarmedH vm₁ → Pre ⟨T.setVm vm₁, locs, cells, slots⟩ (Value.ref b :: argsL).toArray) :
    (∃ (v : Option Value) (vm₁ : Vm) (B : Pt), s.WarmedH vm₁ ∧ Stand p l e R s m args below meth c B.U B.locs B.cells B.slots ∧ Post ⟨T.setVm vm₁, locs, cells, slots⟩ (Value.ref b :: argsL).toArray v B ∧
      ∀ target, Steps p.tables e below (B.U.setTop { g with pc := g.pc + 3, stack := v.toList ++ rest }) target → Steps p.tables e below (T.setTop g) target) ∨
    (∃ (q : Addr) (vm₁ : Vm) (B : Pt), s.WarmedH vm₁ ∧ Stand p l e R s m args below meth c B.U B.locs B.cells B.slots ∧ PostX ⟨T.setVm vm₁, locs, cells, slots⟩ (Value.ref b :: argsL).toArray q B ∧
      Steps p.tables e below (T.setTop g) ((B.U.setTop { g with stack := rest }).pushFrame (.throwing q))) := by
  obtain ⟨mk, methM, hnamed, hmethM, hstM, habM⟩ := Cond.instanceMethod_spec hinst
  obtain ⟨m8, methM', cM, hn8, hmethM', -, -, -, -, -, -, hsigM⟩ := Cond.codeWith_spec hcode
  cases Option.some.inj (hn8.symm.trans hnamed)
  cases hmethM.symm.trans hmethM'
  obtain ⟨c2, r2, m2, q1, q2, q3, q4, kP, hkP, hkPi⟩ := Cond.selects_spec hsel
  cases hcls.symm.trans q1
  cases (State.methodFound?_of_named hnamed hy).symm.trans q2
  cases hnamed.symm.trans q3
  have hselP : selectMethod e.platform s.vm cellB.cls mk = .method mk := by rw [Launch.admits_selectMethod X.admits]; exact q4
  obtain ⟨vm₁, X₁, hstep₁⟩ := X.invokevirtual hexec hown hlink hnamed hmethM hstM hkP hkPi hy (a := b) (cell := cellB) hcell
    (fun z h => by rw [h] at hobj; cases hobj) hselP hmethM habM hkP hkPi (g := g) hg (argsL := argsL) (rest := rest) (hlen _ hsigM) hstack hdg
  rcases hK m meth c ⟨T.setVm vm₁, locs, cells, slots⟩ { g with stack := rest } (.invokevirtual index) mk (Value.ref b :: argsL).toArray X₁ hg hsize hdg hW (X₁.named hnamed) (hpre vm₁ X₁.warmed) with ⟨v, B, X', hpost, hsteps⟩ | ⟨q, B, X', hpost, hsteps⟩
  · exact Or.inl ⟨v, vm₁, B, X₁.warmed, X', hpost, fun target h => hstep₁ _ fun acts => by rw [doInvoke_state]; exact hsteps.trans h⟩
  · exact Or.inr ⟨q, vm₁, B, X₁.warmed, X', hpost, hstep₁ _ fun acts => by rw [doInvoke_state]; exact hsteps⟩
theorem vx_callSX (X : Stand p l e R s m args below meth c T locs cells slots) (hexec : p.tables.exec = Jvm.exec) {own : String} {index : Nat} {y : MethodName} {bytes : ByteArray} {maxL : Nat} {ret : Option FieldType} {hh : List (Nat × Nat × Nat × Nat)}
    (hown : s.vm.findClass own = some m.cls) (hlink : (Cond.methodLink own index y).before args s = true) (hstat : (Cond.static y).before args s = true) (hinit : (Cond.initialized y.cls).before args s = true)
    (hcode : (Cond.codeWith y bytes maxL ret hh).before args s = true) (hy : y.cls ≠ "java/lang/invoke/MethodHandle" ∧ y.cls ≠ "java/lang/invoke/VarHandle")
    {W9 : Nat} {Pre : Pt → Array Value → Prop} {Post : Pt → Array Value → Option Value → Pt → Prop} {PostX : Pt → Array Value → Addr → Pt → Prop} (hK : vx_Back l R p e below s args y 3 W9 Pre Post PostX)
    {g : JFrame} (hg : g.method = m) (hsize : g.locals.size = c.maxLocals) {argsL rest : List Value} (hlen : ∀ sig, parseMethodDescriptor y.desc = some sig → argsL.length = sig.parameters.length)
    (hstack : g.stack = argsL.reverse ++ rest) (hW : 2 * g.monitorRoom + (rest.map fun v => v.category).sum ≤ W9) (hdg : decode c.code g.pc = .ok (.invokestatic index, 3))
    (hpre : ∀ vm₁, s.WarmedH vm₁ → Pre ⟨T.setVm vm₁, locs, cells, slots⟩ argsL.toArray) :
    (∃ (v : Option Value) (vm₁ : Vm) (B : Pt), s.WarmedH vm₁ ∧ Stand p l e R s m args below meth c B.U B.locs B.cells B.slots ∧ Post ⟨T.setVm vm₁, locs, cells, slots⟩ argsL.toArray v B ∧
      ∀ target, Steps p.tables e below (B.U.setTop { g with pc := g.pc + 3, stack := v.toList ++ rest }) target → Steps p.tables e below (T.setTop g) target) ∨
    (∃ (q : Addr) (vm₁ : Vm) (B : Pt), s.WarmedH vm₁ ∧ Stand p l e R s m args below meth c B.U B.locs B.cells B.slots ∧ PostX ⟨T.setVm vm₁, locs, cells, slots⟩ argsL.toArray q B ∧
      Steps p.tables e below (T.setTop g) ((B.U.setTop { g with stack := rest }).pushFrame (.throwing q))) := by
  obtain ⟨mk, methM, cM, hnamed, hmethM, -, -, -, -, -, -, hsigM⟩ := Cond.codeWith_spec hcode
  have hstatic : methM.isStatic = true := Cond.static_spec hnamed hmethM hstat
  obtain ⟨kP, hkP, -⟩ := className_of_methodNamed hnamed
  have hinitP : kP.init = .initialized := Cond.initialized_spec (findClass_of_methodNamed hnamed) hkP hinit
  obtain ⟨vm₁, X₁, hstep₁⟩ := X.invokestatic hexec hown hlink hnamed hmethM hstatic hkP hinitP hy (g := g) hg (argsL := argsL) (rest := rest) (hlen _ hsigM) hstack hdg
  rcases hK m meth c ⟨T.setVm vm₁, locs, cells, slots⟩ { g with stack := rest } (.invokestatic index) mk argsL.toArray X₁ hg hsize hdg hW (X₁.named hnamed) (hpre vm₁ X₁.warmed) with ⟨v, B, X', hpost, hsteps⟩ | ⟨q, B, X', hpost, hsteps⟩
  · exact Or.inl ⟨v, vm₁, B, X₁.warmed, X', hpost, fun target h => hstep₁ _ fun acts => by rw [doInvoke_state]; exact hsteps.trans h⟩
  · exact Or.inr ⟨q, vm₁, B, X₁.warmed, X', hpost, hstep₁ _ fun acts => by rw [doInvoke_state]; exact hsteps⟩
theorem vx_callVW (X : Stand p l e R s m args below meth c T locs cells slots) (hexec : p.tables.exec = Jvm.exec) {own C : String} {index : Nat} {y : MethodName} {bytes : ByteArray} {maxL : Nat} {ret : Option FieldType} {hh : List (Nat × Nat × Nat × Nat)}
    (hown : s.vm.findClass own = some m.cls) (hlink : (Cond.methodLink own index y).before args s = true) (hinst : (Cond.instanceMethod y).before args s = true) (hsel : (Cond.selects C y y).before args s = true)
    (hcode : (Cond.codeWith y bytes maxL ret hh).before args s = true) (hy : y.cls ≠ "java/lang/invoke/MethodHandle" ∧ y.cls ≠ "java/lang/invoke/VarHandle")
    {W9 : Nat} {Pre : Pt → Array Value → Prop} {Post : Pt → Array Value → Option Value → Pt → Prop} (hK : Back l R p e below s args y 3 W9 Pre Post)
    {b : Addr} {cellB : Cell} (hcell : T.heap[b]? = some cellB) (hobj : cellB.vm.isStatics = false) (hcls : s.vm.findClass C = some cellB.cls)
    {g : JFrame} (hg : g.method = m) (hsize : g.locals.size = c.maxLocals) {argsL rest : List Value} (hlen : ∀ sig, parseMethodDescriptor y.desc = some sig → argsL.length = sig.parameters.length)
    (hstack : g.stack = argsL.reverse ++ .ref b :: rest) (hW : 2 * g.monitorRoom + (rest.map fun v => v.category).sum ≤ W9) (hdg : decode c.code g.pc = .ok (.invokevirtual index, 3))
    (hpre : ∀ vm₁, s.WarmedH vm₁ → Pre ⟨T.setVm vm₁, locs, cells, slots⟩ (Value.ref b :: argsL).toArray) :
    ∃ (v : Option Value) (vm₁ : Vm) (B : Pt), s.WarmedH vm₁ ∧ Stand p l e R s m args below meth c B.U B.locs B.cells B.slots ∧ Post ⟨T.setVm vm₁, locs, cells, slots⟩ (Value.ref b :: argsL).toArray v B ∧
      ∀ target, Steps p.tables e below (B.U.setTop { g with pc := g.pc + 3, stack := v.toList ++ rest }) target → Steps p.tables e below (T.setTop g) target := by
  obtain ⟨mk, methM, hnamed, hmethM, hstM, habM⟩ := Cond.instanceMethod_spec hinst
  obtain ⟨m8, methM', cM, hn8, hmethM', -, -, -, -, -, -, hsigM⟩ := Cond.codeWith_spec hcode
  cases Option.some.inj (hn8.symm.trans hnamed)
  cases hmethM.symm.trans hmethM'
  obtain ⟨c2, r2, m2, q1, q2, q3, q4, kP, hkP, hkPi⟩ := Cond.selects_spec hsel
  cases hcls.symm.trans q1
  cases (State.methodFound?_of_named hnamed hy).symm.trans q2
  cases hnamed.symm.trans q3
  have hselP : selectMethod e.platform s.vm cellB.cls mk = .method mk := by rw [Launch.admits_selectMethod X.admits]; exact q4
  obtain ⟨vm₁, X₁, hstep₁⟩ := X.invokevirtual hexec hown hlink hnamed hmethM hstM hkP hkPi hy (a := b) (cell := cellB) hcell
    (fun z h => by rw [h] at hobj; cases hobj) hselP hmethM habM hkP hkPi (g := g) hg (argsL := argsL) (rest := rest) (hlen _ hsigM) hstack hdg
  obtain ⟨v, B, X', hpost, hsteps⟩ := hK m meth c ⟨T.setVm vm₁, locs, cells, slots⟩ { g with stack := rest } (.invokevirtual index) mk (Value.ref b :: argsL).toArray X₁ hg hsize hdg hW (X₁.named hnamed) (hpre vm₁ X₁.warmed)
  exact ⟨v, vm₁, B, X₁.warmed, X', hpost, fun target h => hstep₁ _ fun acts => by rw [doInvoke_state]; exact hsteps.trans h⟩
abbrev vx_CVW (R : Room) (s : State) (args : Array Value) (own C : String) (index : Nat) (y : MethodName) (bytes : ByteArray) (maxL : Nat) (ret : Option FieldType) (hh : List (Nat × Nat × Nat × Nat)) (ws : List Cond) (rm : Room) (mc ms n : Nat) : Prop :=
  (rm.cells = mc ∧ rm.slots = ms ∧ rm.frames + 1 ≤ R.frames ∧ 8 + (maxL + 11) + rm.locals ≤ R.locals ∧ (∀ w ∈ ws, ∀ (a' : Array Value) (U : State), s.WarmedH U.vm → w.before a' U = true) ∧ Cond.codeWith y bytes maxL ret hh ∈ ws) ∧
  (Cond.codeWith y bytes maxL ret hh).before args s = true ∧ (Cond.initialized y.cls).before args s = true ∧ (y.cls ≠ "java/lang/invoke/MethodHandle" ∧ y.cls ≠ "java/lang/invoke/VarHandle") ∧
  (∀ sig, parseMethodDescriptor y.desc = some sig → n = sig.parameters.length) ∧ (Cond.methodLink own index y).before args s = true ∧ (Cond.instanceMethod y).before args s = true ∧ (Cond.selects C y y).before args s = true
theorem vx_cwVW {own C : String} {index maxL mc ms : Nat} {y : MethodName} {bytes : ByteArray} {ret : Option FieldType} {hh : List (Nat × Nat × Nat × Nat)} {Ts ws ws' : List Cond} {rm : Room} (n : Nat) (ht : ∀ w ∈ Ts, w.before args s = true) (hT : GoodIn Ts (wsV own index C y ws)) (hw : ws = Cond.codeWith y bytes maxL ret hh :: ws') (hrc : rm.cells = mc) (hrs : rm.slots = ms)
    (hd : y.cls = C ∧ y.cls ≠ "java/lang/invoke/MethodHandle" ∧ y.cls ≠ "java/lang/invoke/VarHandle" ∧ (parseMethodDescriptor y.desc).map (fun d => d.parameters.length) = some n) (hR : rm.frames + 1 ≤ R.frames ∧ 8 + (maxL + 11) + rm.locals ≤ R.locals) :
    vx_CVW R s args own C index y bytes maxL ret hh ws rm mc ms n := by
  obtain ⟨hC, hd⟩ := hd
  subst hC
  have ok : ∀ w ∈ wsV own index y.cls y ws, w.before args s = true := fun w h => ht w (hT w h).1
  have hG : GoodIn Ts ws := fun w h => hT w (by unfold wsV; exact List.mem_append_right _ h)
  have hc : Cond.codeWith y bytes maxL ret hh ∈ ws := by rw [hw]; exact List.mem_cons_self
  refine ⟨⟨hrc, hrs, hR.1, hR.2, pay_in ht hG, hc⟩, ht _ (hG _ hc).1, ok _ (by simp [wsV]), ⟨hd.1, hd.2.1⟩, fun sig h => ?_, ok _ (by simp [wsV]), ok _ (by simp [wsV]), ok _ (by simp [wsV])⟩
  have h2 := hd.2.2
  rw [h] at h2
  exact (Option.some.inj h2).symm
theorem vx_runVW {y : MethodName} {bytes cc : ByteArray} {maxL nL mc ms n index : Nat} {ret : Option FieldType} {hh : List (Nat × Nat × Nat × Nat)} {ws : List Cond} {rm : Room} {Pc : Array Value → State → Prop} {Qc : Array Value → State → Outcome → State → Prop} {free : Addr → Prop} {Ts : List Cond} {own C : String} {b : Addr} {As rest : List Value} {g : JFrame}
    (S : CallFix p m c cc nL s args Ts own) (hM : Met l y ws rm Pc Qc mc ms free) (cw : vx_CVW R s args own C index y bytes maxL ret hh ws rm mc ms n) (hp : PreV s H C b Pc As)
    (hg : g.method = m) (hn : As.length = n) (hsize : g.locals.size = nL) (hstack : g.stack = As.reverse ++ .ref b :: rest) (hW : 2 * g.monitorRoom + (rest.map fun v => v.category).sum ≤ 8) (hdg : decode cc g.pc = .ok (.invokevirtual index, 3)) (hf : cells + mc ≤ R.cells ∧ slots + ms ≤ R.slots) :
    va_Run p l e R s m args below meth c H locs cells slots mc ms g rest (Qc (Value.ref b :: As).toArray) free := by
  obtain ⟨⟨hrc, hrs, hfr, hlo, hws, hcw⟩, hcode, hini, hy, hlen, hl, hin, hse⟩ := cw
  have hK : Back l R p e below s args y 3 8 (PreOf R mc ms Pc) (PostOf Qc mc ms free) := va_backW (hh := hh) (bytes := bytes) (maxL := maxL) (ret := ret) hM hp.1 hrc hrs hfr hlo hws hcw (fun a' U hW => word_at hW (Or.inl (by first | rfl | simp [Cond.onTables, Cond.keeps, Cond.steady])) hini)
  obtain ⟨hx, hb, hml, ho, -⟩ := S
  obtain ⟨-, ⟨cellB, hcB, hoB, hclB⟩, hPc⟩ := hp
  intro T hT X
  obtain ⟨v, vm₁, ⟨U', l2, c2, s2⟩, hW₁, X', ⟨g', mk, t, L, e1, e2, hq, h1, hL, h2, h3⟩, st⟩ := vx_callVW X hx (C := C) (hh := hh) (bytes := bytes) (maxL := maxL) (ret := ret) ho hl hin hse hcode hy hK (by rw [hT]; exact hcB) hoB hclB hg (hsize.trans hml.symm) (argsL := As) (rest := rest) (fun sig h => hn.trans (hlen sig h)) hstack hW (by rw [hb]; exact hdg)
    (fun vm₁ hW₁ => ⟨hf.1, hf.2, hPc (T.setVm vm₁) hT hW₁⟩)
  dsimp only [Pt.U, Pt.locs, Pt.cells, Pt.slots] at X' e1 e2 h1 h2 h3 st
  subst h1; subst h2; subst h3
  exact ⟨v, (T.setVm vm₁).calling g' mk (Value.ref b :: As).toArray, t, U', L, hT, X', hL, e1, e2, hq, st⟩
section
variable {y : MethodName} {bytes cc : ByteArray} {maxL nL mc ms n index : Nat} {ret : Option FieldType} {ws : List Cond} {rm : Room} {Pc : Array Value → State → Prop} {Qc : Array Value → State → Outcome → State → Prop} {XC : String → State → State → Prop} {free : Addr → Prop} {Ts : List Cond} {own C : String} {b : Addr} {As rest : List Value} {g : JFrame}
theorem vx_runVX {hh : List (Nat × Nat × Nat × Nat)} (S : CallFix p m c cc nL s args Ts own) (hM : vx_Met l y ws rm Pc Qc XC mc ms free) (cw : vx_CVW R s args own C index y bytes maxL ret hh ws rm mc ms n) (hp : PreV s H C b Pc As)
    (hg : g.method = m) (hn : As.length = n) (hsize : g.locals.size = nL) (hstack : g.stack = As.reverse ++ .ref b :: rest) (hW : 2 * g.monitorRoom + (rest.map fun v => v.category).sum ≤ 8) (hdg : decode cc g.pc = .ok (.invokevirtual index, 3)) (hf : cells + mc ≤ R.cells ∧ slots + ms ≤ R.slots) :
    vx_Run p l e R s m args below meth c H locs cells slots mc ms g rest (Qc (Value.ref b :: As).toArray) XC free := by
  obtain ⟨⟨hrc, hrs, hfr, hlo, hws, hcw⟩, hcode, hini, hy, hlen, hl, hin, hse⟩ := cw
  have hK : vx_Back l R p e below s args y 3 8 (PreOf R mc ms Pc) (PostOf Qc mc ms free) (vx_Post XC mc ms free) := vx_backW (hh := hh) (bytes := bytes) (maxL := maxL) (ret := ret) hM hp.1 hrc hrs hfr hlo hws hcw (fun a' U hW => word_at hW (Or.inl (by first | rfl | simp [Cond.onTables, Cond.keeps, Cond.steady])) hini)
  obtain ⟨hx, hb, hml, ho, -⟩ := S
  obtain ⟨-, ⟨cellB, hcB, hoB, hclB⟩, hPc⟩ := hp
  intro T hT X
  rcases vx_callVX X hx (C := C) (hh := hh) (bytes := bytes) (maxL := maxL) (ret := ret) ho hl hin hse hcode hy hK (by rw [hT]; exact hcB) hoB hclB hg (hsize.trans hml.symm) (argsL := As) (rest := rest) (fun sig h => hn.trans (hlen sig h)) hstack hW (by rw [hb]; exact hdg)
    (fun vm₁ hW₁ => ⟨hf.1, hf.2, hPc (T.setVm vm₁) hT hW₁⟩) with ⟨v, vm₁, ⟨U', l2, c2, s2⟩, hW₁, X', ⟨g', mk, t, L, e1, e2, hq, h1, hL, h2, h3⟩, st⟩ | ⟨q, vm₁, ⟨U', l2, c2, s2⟩, hW₁, X', ⟨g', mk, t, L, E, ce, e1, e2, hq, hce, hcv, hcl, h1, hL, h2, h3⟩, st⟩
  · dsimp only [Pt.U, Pt.locs, Pt.cells, Pt.slots] at X' e1 e2 h1 h2 h3 st
    subst h1; subst h2; subst h3
    exact Or.inl ⟨v, (T.setVm vm₁).calling g' mk (Value.ref b :: As).toArray, t, U', L, hT, X', hL, e1, e2, hq, st⟩
  · dsimp only [Pt.U, Pt.locs, Pt.cells, Pt.slots] at X' e1 e2 h1 h2 h3 st hcl
    subst h1; subst h2; subst h3
    exact Or.inr ⟨q, (T.setVm vm₁).calling g' mk (Value.ref b :: As).toArray, t, U', L, E, ce, hT, X', hL, e1, e2, hq, hce, hcv, vx_cls hW₁ hcl, st⟩
theorem vx_runSX {hh : List (Nat × Nat × Nat × Nat)} (S : CallFix p m c cc nL s args Ts own) (hM : vx_Met l y ws rm Pc Qc XC mc ms free) (cw : vx_CSW R s args own index y bytes maxL ret hh ws rm mc ms n) (hp : PreS s H Pc As)
    (hg : g.method = m) (hn : As.length = n) (hsize : g.locals.size = nL) (hstack : g.stack = As.reverse ++ rest) (hW : 2 * g.monitorRoom + (rest.map fun v => v.category).sum ≤ 8) (hdg : decode cc g.pc = .ok (.invokestatic index, 3)) (hf : cells + mc ≤ R.cells ∧ slots + ms ≤ R.slots) :
    vx_Run p l e R s m args below meth c H locs cells slots mc ms g rest (Qc As.toArray) XC free := by
  obtain ⟨⟨hrc, hrs, hfr, hlo, hws, hcw⟩, hcode, hini, hy, hlen, hl, hstt⟩ := cw
  have hK : vx_Back l R p e below s args y 3 8 (PreOf R mc ms Pc) (PostOf Qc mc ms free) (vx_Post XC mc ms free) := vx_backW (hh := hh) (bytes := bytes) (maxL := maxL) (ret := ret) hM hp.1 hrc hrs hfr hlo hws hcw (fun a' U hW => word_at hW (Or.inl (by first | rfl | simp [Cond.onTables, Cond.keeps, Cond.steady])) hini)
  obtain ⟨hx, hb, hml, ho, -⟩ := S
  intro T hT X
  rcases vx_callSX X hx (hh := hh) (bytes := bytes) (maxL := maxL) (ret := ret) ho hl hstt hini hcode hy hK hg (hsize.trans hml.symm) (argsL := As) (rest := rest) (fun sig h => hn.trans (hlen sig h)) hstack hW (by rw [hb]; exact hdg)
    (fun vm₁ hW₁ => ⟨hf.1, hf.2, hp.2 (T.setVm vm₁) hT hW₁⟩) with ⟨v, vm₁, ⟨U', l2, c2, s2⟩, hW₁, X', ⟨g', mk, t, L, e1, e2, hq, h1, hL, h2, h3⟩, st⟩ | ⟨q, vm₁, ⟨U', l2, c2, s2⟩, hW₁, X', ⟨g', mk, t, L, E, ce, e1, e2, hq, hce, hcv, hcl, h1, hL, h2, h3⟩, st⟩
  · dsimp only [Pt.U, Pt.locs, Pt.cells, Pt.slots] at X' e1 e2 h1 h2 h3 st
    subst h1; subst h2; subst h3
    exact Or.inl ⟨v, (T.setVm vm₁).calling g' mk As.toArray, t, U', L, hT, X', hL, e1, e2, hq, st⟩
  · dsimp only [Pt.U, Pt.locs, Pt.cells, Pt.slots] at X' e1 e2 h1 h2 h3 st hcl
    subst h1; subst h2; subst h3
    exact Or.inr ⟨q, (T.setVm vm₁).calling g' mk As.toArray, t, U', L, E, ce, hT, X', hL, e1, e2, hq, hce, hcv, vx_cls hW₁ hcl, st⟩
end
end VXH
theorem vx_ofWH {l : Launch} {y : MethodName} {ws ws' : List Cond} {rm : Room} {Pc : Array Value → State → Prop} {Qc : Array Value → State → Outcome → State → Prop} {XC : String → State → State → Prop} {mc ms : Nat} {free : Addr → Prop} {cc : ByteArray} {maxL : Nat} {ret : Option FieldType} {hh : List (Nat × Nat × Nat × Nat)}
    (hy : plainName y.cls = true) (hw : ws = Cond.codeWith y cc maxL ret hh :: ws')
    (body : ∀ p e s m args below meth c s₁, BodyLoose p l y (headSpec ws rm) cc maxL ret e s m args below meth c s₁ → c.maxLocals = maxL → Pc args s →
      W p l e (headSpec ws rm).room s m args below meth c s.heap [] 0 0 (vx_MQ below Qc XC args s mc ms free) (entryFrame m args maxL)) : vx_Met l y ws rm Pc Qc XC mc ms free := by
  refine MetFree.of_bodyS (code := cc) (maxLocals := maxL) (ret := ret) hy ?_ ?_
  · intro args s m h hn
    obtain ⟨m9, meth, c, hn9, h1, h2, h3, h4, -, h5, h6, -⟩ := Cond.codeWith_spec (atoms_spec (ws := ws) h _ (by rw [hw]; exact List.mem_cons_self))
    cases hn.symm.trans hn9
    exact ⟨meth, c, h1, h2, h3, h4, h5, h6⟩
  · intro p e s m args below meth c s₁ B hml hP _
    have hh0 : s₁.heap = s.heap := by rw [B.state]; rfl
    obtain ⟨t, a1, o, b1, b2, b3⟩ := body p e s m args below meth c s₁ B hml hP s₁ hh0 (Stand.of_body B)
    exact ⟨t, o, a1, b1, b2, b3⟩
/-! ===== END ===== -/
end
section
/-! ===== BEGIN printed: names, fields, word lists, decode rows ===== -/
def RX0 : String := "BranchNotes$Desk"
def TX0 : u_T := fun k => match k with
  | 0 => ("BranchNotes$Desk", "settings", "[I", true)
  | 1 => ("BranchNotes$Desk", "strengths", "[I", true)
  | 2 => ("BranchNotes$Desk", "lastPlaces", "[I", true)
  | 3 => ("BranchNotes$Desk", "uses", "[I", true)
  | 4 => ("BranchNotes$Desk", "rights", "[I", true)
  | 5 => ("BranchNotes$Desk", "paths", "[I", true)
  | 6 => ("BranchNotes$Desk", "clashes", "I", false)
  | _ => ("BranchNotes$Desk", "right", "I", false)
def tyX0 : Nat → FieldType := fun k => match k with
  | 0 => .array .int
  | 1 => .array .int
  | 2 => .array .int
  | 3 => .array .int
  | 4 => .array .int
  | 5 => .array .int
  | 6 => .int
  | _ => .int
abbrev wsX00 : List Cond := u_ws RX0 TX0 8
theorem nmX0 : ∀ a, a < 8 → ∀ b, b < 8 → a ≠ b → (TX0 a).2.1 ≠ (TX0 b).2.1 := by decide +kernel
theorem tyX0_ok : ∀ k, k < 8 → parseFieldDescriptor (TX0 k).2.2.1 = some (tyX0 k) := by decide +kernel
abbrev cX0_init : ByteArray := prog_2_method_1_code
def yX0_init : MethodName := ⟨RX0, "<init>", "()V"⟩
abbrev cX0_copyFrom : ByteArray := prog_2_method_2_code
def yX0_copyFrom : MethodName := ⟨RX0, "copyFrom", "(LBranchNotes$Desk;)V"⟩
abbrev cX0_beginAnew : ByteArray := prog_2_method_3_code
def yX0_beginAnew : MethodName := ⟨RX0, "beginAnew", "(I)V"⟩
abbrev cX0_countUsed : ByteArray := prog_2_method_4_code
def yX0_countUsed : MethodName := ⟨RX0, "countUsed", "()I"⟩
abbrev cX0_pathFor : ByteArray := prog_2_method_5_code
def yX0_pathFor : MethodName := ⟨RX0, "pathFor", "(I)I"⟩
abbrev cX0_noteFor : ByteArray := prog_2_method_6_code
def yX0_noteFor : MethodName := ⟨RX0, "noteFor", "(II)I"⟩
abbrev cX0_use : ByteArray := prog_2_method_7_code
def yX0_use : MethodName := ⟨RX0, "use", "(IIZI)V"⟩
abbrev cX0_changePath : ByteArray := prog_2_method_8_code
def yX0_changePath : MethodName := ⟨RX0, "changePath", "(IZ)V"⟩
def RX1 : String := "BranchNotes$History"
def TX1 : u_T := fun k => match k with
  | 0 => ("BranchNotes$History", "ring", "[LBranchNotes$State;", true)
  | 1 => ("BranchNotes$History", "oldest", "I", false)
  | _ => ("BranchNotes$History", "count", "I", false)
def tyX1 : Nat → FieldType := fun k => match k with
  | 0 => .array (.object "BranchNotes$State")
  | 1 => .int
  | _ => .int
abbrev wsX10 : List Cond := u_ws RX1 TX1 3
theorem nmX1 : ∀ a, a < 3 → ∀ b, b < 3 → a ≠ b → (TX1 a).2.1 ≠ (TX1 b).2.1 := by decide +kernel
theorem tyX1_ok : ∀ k, k < 3 → parseFieldDescriptor (TX1 k).2.2.1 = some (tyX1 k) := by decide +kernel
abbrev cX1_init : ByteArray := prog_3_method_1_code
def yX1_init : MethodName := ⟨RX1, "<init>", "()V"⟩
abbrev cX1_remember : ByteArray := prog_3_method_2_code
def yX1_remember : MethodName := ⟨RX1, "remember", "(LBranchNotes$State;)V"⟩
abbrev cX1_takeBack : ByteArray := prog_3_method_3_code
def yX1_takeBack : MethodName := ⟨RX1, "takeBack", "(LBranchNotes$State;)Z"⟩
def RX2 : String := "BranchNotes$Script"
def TX2 : u_T := fun k => match k with
  | _ => ("", "", "", false)
def tyX2 : Nat → FieldType := fun k => match k with
  | _ => .int
abbrev wsX20 : List Cond := u_ws RX2 TX2 0
theorem nmX2 : ∀ a, a < 0 → ∀ b, b < 0 → a ≠ b → (TX2 a).2.1 ≠ (TX2 b).2.1 := by decide +kernel
theorem tyX2_ok : ∀ k, k < 0 → parseFieldDescriptor (TX2 k).2.2.1 = some (tyX2 k) := by decide +kernel
abbrev cX2_succeeds : ByteArray := prog_4_method_2_code
def yX2_succeeds : MethodName := ⟨RX2, "succeeds", "(LBranchNotes$State;I)Z"⟩
abbrev cX2_goOften : ByteArray := prog_4_method_3_code
def yX2_goOften : MethodName := ⟨RX2, "goOften", "(LBranchNotes$State;III)Z"⟩
abbrev cX2_changeDesk : ByteArray := prog_4_method_4_code
def yX2_changeDesk : MethodName := ⟨RX2, "changeDesk", "(LBranchNotes$State;III)Z"⟩
abbrev cX2_changeBoth : ByteArray := prog_4_method_5_code
def yX2_changeBoth : MethodName := ⟨RX2, "changeBoth", "(LBranchNotes$State;II)Z"⟩
abbrev cX2_forgetAll : ByteArray := prog_4_method_6_code
def yX2_forgetAll : MethodName := ⟨RX2, "forgetAll", "(LBranchNotes$State;)Z"⟩
abbrev cX2_makeStrength : ByteArray := prog_4_method_7_code
def yX2_makeStrength : MethodName := ⟨RX2, "makeStrength", "(LBranchNotes$State;III)Z"⟩
abbrev cX2_isGuess : ByteArray := prog_4_method_8_code
def yX2_isGuess : MethodName := ⟨RX2, "isGuess", "(LBranchNotes$State;II)Z"⟩
def RX3 : String := "BranchNotes$State"
def TX3 : u_T := fun k => match k with
  | 0 => ("BranchNotes$State", "settings", "[I", true)
  | 1 => ("BranchNotes$State", "desks", "[LBranchNotes$Desk;", true)
  | 2 => ("BranchNotes$State", "choosers", "[I", true)
  | 3 => ("BranchNotes$State", "goneAt", "[I", true)
  | 4 => ("BranchNotes$State", "takenAt", "[I", true)
  | 5 => ("BranchNotes$State", "rightAt", "[I", true)
  | 6 => ("BranchNotes$State", "gone", "I", false)
  | 7 => ("BranchNotes$State", "right", "I", false)
  | 8 => ("BranchNotes$State", "points", "I", false)
  | 9 => ("BranchNotes$State", "series", "I", false)
  | _ => ("BranchNotes$State", "longestSeries", "I", false)
def tyX3 : Nat → FieldType := fun k => match k with
  | 0 => .array .int
  | 1 => .array (.object "BranchNotes$Desk")
  | 2 => .array .int
  | 3 => .array .int
  | 4 => .array .int
  | 5 => .array .int
  | 6 => .int
  | 7 => .int
  | 8 => .int
  | 9 => .int
  | _ => .int
abbrev wsX30 : List Cond := u_ws RX3 TX3 11
theorem nmX3 : ∀ a, a < 11 → ∀ b, b < 11 → a ≠ b → (TX3 a).2.1 ≠ (TX3 b).2.1 := by decide +kernel
theorem tyX3_ok : ∀ k, k < 11 → parseFieldDescriptor (TX3 k).2.2.1 = some (tyX3 k) := by decide +kernel
abbrev cX3_init : ByteArray := prog_5_method_1_code
def yX3_init : MethodName := ⟨RX3, "<init>", "()V"⟩
abbrev cX3_copyFrom : ByteArray := prog_5_method_2_code
def yX3_copyFrom : MethodName := ⟨RX3, "copyFrom", "(LBranchNotes$State;)V"⟩
abbrev cX3_beginAnew : ByteArray := prog_5_method_3_code
def yX3_beginAnew : MethodName := ⟨RX3, "beginAnew", "()V"⟩
abbrev cX3_changeDesk : ByteArray := prog_5_method_4_code
def yX3_changeDesk : MethodName := ⟨RX3, "changeDesk", "(III)V"⟩
abbrev cX3_changeBoth : ByteArray := prog_5_method_5_code
def yX3_changeBoth : MethodName := ⟨RX3, "changeBoth", "(II)V"⟩
abbrev cX3_isNote : ByteArray := prog_5_method_6_code
def yX3_isNote : MethodName := ⟨RX3, "isNote", "(I)Z"⟩
abbrev cX3_isStrength : ByteArray := prog_5_method_7_code
def yX3_isStrength : MethodName := ⟨RX3, "isStrength", "(I)Z"⟩
abbrev cX3_allClashes : ByteArray := prog_5_method_8_code
def yX3_allClashes : MethodName := ⟨RX3, "allClashes", "()I"⟩
abbrev cX3_noteFor : ByteArray := prog_5_method_9_code
def yX3_noteFor : MethodName := ⟨RX3, "noteFor", "(II)I"⟩
abbrev cX3_deskSays : ByteArray := prog_5_method_10_code
def yX3_deskSays : MethodName := ⟨RX3, "deskSays", "(II)Z"⟩
abbrev cX3_guessFor : ByteArray := prog_5_method_11_code
def yX3_guessFor : MethodName := ⟨RX3, "guessFor", "(I)Z"⟩
abbrev cX3_go : ByteArray := prog_5_method_12_code
def yX3_go : MethodName := ⟨RX3, "go", "(IZ)Z"⟩
abbrev cX3_goAll : ByteArray := prog_5_method_13_code
def yX3_goAll : MethodName := ⟨RX3, "goAll", "(LBranchNotes$Text;)V"⟩
abbrev cX3_countGuess : ByteArray := prog_5_method_14_code
def yX3_countGuess : MethodName := ⟨RX3, "countGuess", "(IZZ)V"⟩
abbrev cX3_moveChooser : ByteArray := prog_5_method_15_code
def yX3_moveChooser : MethodName := ⟨RX3, "moveChooser", "(IZ)V"⟩
def RX4 : String := "BranchNotes$Text"
def TX4 : u_T := fun k => match k with
  | 0 => ("BranchNotes$Text", "codes", "[I", true)
  | 1 => ("BranchNotes$Text", "length", "I", false)
  | 2 => ("BranchNotes$Text", "steps", "[I", true)
  | 3 => ("BranchNotes$Text", "stepCount", "I", false)
  | 4 => ("BranchNotes$Text", "starts", "[I", true)
  | 5 => ("BranchNotes$Text", "open", "I", false)
  | 6 => ("BranchNotes$Text", "letter", "I", false)
  | _ => ("BranchNotes$Text", "expected", "I", false)
def tyX4 : Nat → FieldType := fun k => match k with
  | 0 => .array .int
  | 1 => .int
  | 2 => .array .int
  | 3 => .int
  | 4 => .array .int
  | 5 => .int
  | 6 => .int
  | _ => .int
abbrev wsX40 : List Cond := u_ws RX4 TX4 8
theorem nmX4 : ∀ a, a < 8 → ∀ b, b < 8 → a ≠ b → (TX4 a).2.1 ≠ (TX4 b).2.1 := by decide +kernel
theorem tyX4_ok : ∀ k, k < 8 → parseFieldDescriptor (TX4 k).2.2.1 = some (tyX4 k) := by decide +kernel
abbrev cX4_init : ByteArray := prog_6_method_1_code
def yX4_init : MethodName := ⟨RX4, "<init>", "()V"⟩
abbrev cX4_add : ByteArray := prog_6_method_2_code
def yX4_add : MethodName := ⟨RX4, "add", "(I)Z"⟩
abbrev cX4_isPlayable : ByteArray := prog_6_method_3_code
def yX4_isPlayable : MethodName := ⟨RX4, "isPlayable", "()Z"⟩
abbrev cX4_read : ByteArray := prog_6_method_4_code
def yX4_read : MethodName := ⟨RX4, "read", "()I"⟩
abbrev cX4_readCharacter : ByteArray := prog_6_method_5_code
def yX4_readCharacter : MethodName := ⟨RX4, "readCharacter", "(I)Z"⟩
abbrev cX4_readItem : ByteArray := prog_6_method_6_code
def yX4_readItem : MethodName := ⟨RX4, "readItem", "(I)Z"⟩
abbrev cX4_readSign : ByteArray := prog_6_method_7_code
def yX4_readSign : MethodName := ⟨RX4, "readSign", "(I)Z"⟩
abbrev cX4_readDigit : ByteArray := prog_6_method_8_code
def yX4_readDigit : MethodName := ⟨RX4, "readDigit", "(I)Z"⟩
abbrev cX4_repeatFrom : ByteArray := prog_6_method_9_code
def yX4_repeatFrom : MethodName := ⟨RX4, "repeatFrom", "(II)V"⟩
def RX5 : String := "BranchNotes"
def TX5 : u_T := fun k => match k with
  | 0 => ("BranchNotes", "text", "LBranchNotes$Text;", true)
  | 1 => ("BranchNotes", "state", "LBranchNotes$State;", true)
  | 2 => ("BranchNotes", "trial", "LBranchNotes$State;", true)
  | 3 => ("BranchNotes", "history", "LBranchNotes$History;", true)
  | 4 => ("BranchNotes", "slots", "[LBranchNotes$State;", true)
  | _ => ("BranchNotes", "saved", "[Z", true)
def tyX5 : Nat → FieldType := fun k => match k with
  | 0 => .object "BranchNotes$Text"
  | 1 => .object "BranchNotes$State"
  | 2 => .object "BranchNotes$State"
  | 3 => .object "BranchNotes$History"
  | 4 => .array (.object "BranchNotes$State")
  | _ => .array .boolean
abbrev wsX50 : List Cond := u_ws RX5 TX5 6
theorem nmX5 : ∀ a, a < 6 → ∀ b, b < 6 → a ≠ b → (TX5 a).2.1 ≠ (TX5 b).2.1 := by decide +kernel
theorem tyX5_ok : ∀ k, k < 6 → parseFieldDescriptor (TX5 k).2.2.1 = some (tyX5 k) := by decide +kernel
abbrev cX5_init : ByteArray := prog_1_method_1_code
def yX5_init : MethodName := ⟨RX5, "<init>", "()V"⟩
abbrev cX5_append : ByteArray := prog_1_method_2_code
def yX5_append : MethodName := ⟨RX5, "append", "(I)I"⟩
abbrev cX5_clearText : ByteArray := prog_1_method_3_code
def yX5_clearText : MethodName := ⟨RX5, "clearText", "()I"⟩
abbrev cX5_errorPosition : ByteArray := prog_1_method_4_code
def yX5_errorPosition : MethodName := ⟨RX5, "errorPosition", "()I"⟩
abbrev cX5_branches : ByteArray := prog_1_method_5_code
def yX5_branches : MethodName := ⟨RX5, "branches", "()I"⟩
abbrev cX5_about : ByteArray := prog_1_method_6_code
def yX5_about : MethodName := ⟨RX5, "about", "(I)I"⟩
abbrev cX5_desk : ByteArray := prog_1_method_7_code
def yX5_desk : MethodName := ⟨RX5, "desk", "(II)I"⟩
abbrev cX5_note : ByteArray := prog_1_method_8_code
def yX5_note : MethodName := ⟨RX5, "note", "(III)I"⟩
abbrev cX5_place : ByteArray := prog_1_method_9_code
def yX5_place : MethodName := ⟨RX5, "place", "(II)I"⟩
abbrev cX5_path : ByteArray := prog_1_method_10_code
def yX5_path : MethodName := ⟨RX5, "path", "(II)I"⟩
abbrev cX5_noteOf : ByteArray := prog_1_method_11_code
def yX5_noteOf : MethodName := ⟨RX5, "noteOf", "(II)I"⟩
abbrev cX5_share : ByteArray := prog_1_method_12_code
def yX5_share : MethodName := ⟨RX5, "share", "(I)I"⟩
abbrev cX5_setDesk : ByteArray := prog_1_method_13_code
def yX5_setDesk : MethodName := ⟨RX5, "setDesk", "(III)I"⟩
abbrev cX5_set : ByteArray := prog_1_method_14_code
def yX5_set : MethodName := ⟨RX5, "set", "(II)I"⟩
abbrev cX5_strengthen : ByteArray := prog_1_method_16_code
def yX5_strengthen : MethodName := ⟨RX5, "strengthen", "(III)I"⟩
abbrev cX5_branch : ByteArray := prog_1_method_17_code
def yX5_branch : MethodName := ⟨RX5, "branch", "(IZ)Z"⟩
abbrev cX5_play : ByteArray := prog_1_method_18_code
def yX5_play : MethodName := ⟨RX5, "play", "()I"⟩
abbrev cX5_undo : ByteArray := prog_1_method_19_code
def yX5_undo : MethodName := ⟨RX5, "undo", "()I"⟩
abbrev cX5_wouldBring : ByteArray := prog_1_method_20_code
def yX5_wouldBring : MethodName := ⟨RX5, "wouldBring", "()I"⟩
abbrev cX5_bestMixing : ByteArray := prog_1_method_21_code
def yX5_bestMixing : MethodName := ⟨RX5, "bestMixing", "(I)I"⟩
abbrev cX5_bestLength : ByteArray := prog_1_method_22_code
def yX5_bestLength : MethodName := ⟨RX5, "bestLength", "(I)I"⟩
abbrev cX5_sharing : ByteArray := prog_1_method_23_code
def yX5_sharing : MethodName := ⟨RX5, "sharing", "(II)I"⟩
abbrev cX5_holds : ByteArray := prog_1_method_24_code
def yX5_holds : MethodName := ⟨RX5, "holds", "(I)I"⟩
abbrev cX5_worst : ByteArray := prog_1_method_25_code
def yX5_worst : MethodName := ⟨RX5, "worst", "()I"⟩
abbrev cX5_runScript : ByteArray := prog_1_method_26_code
def yX5_runScript : MethodName := ⟨RX5, "runScript", "(IJ)I"⟩
abbrev cX5_simulate : ByteArray := prog_1_method_27_code
def yX5_simulate : MethodName := ⟨RX5, "simulate", "(JI)I"⟩
abbrev cX5_save : ByteArray := prog_1_method_28_code
def yX5_save : MethodName := ⟨RX5, "save", "(I)I"⟩
abbrev cX5_restore : ByteArray := prog_1_method_29_code
def yX5_restore : MethodName := ⟨RX5, "restore", "(I)I"⟩
abbrev cX5_isDesk : ByteArray := prog_1_method_30_code
def yX5_isDesk : MethodName := ⟨RX5, "isDesk", "(I)Z"⟩
abbrev cX5_isPlace : ByteArray := prog_1_method_31_code
def yX5_isPlace : MethodName := ⟨RX5, "isPlace", "(I)Z"⟩
abbrev cX5_isDeskSetting : ByteArray := prog_1_method_32_code
def yX5_isDeskSetting : MethodName := ⟨RX5, "isDeskSetting", "(II)Z"⟩
abbrev cX5_isCommonSetting : ByteArray := prog_1_method_33_code
def yX5_isCommonSetting : MethodName := ⟨RX5, "isCommonSetting", "(II)Z"⟩
abbrev cX5_checkDesk : ByteArray := prog_1_method_34_code
def yX5_checkDesk : MethodName := ⟨RX5, "checkDesk", "(I)V"⟩
abbrev cX5_checkPlace : ByteArray := prog_1_method_35_code
def yX5_checkPlace : MethodName := ⟨RX5, "checkPlace", "(I)V"⟩
abbrev cX5_checkSlot : ByteArray := prog_1_method_36_code
def yX5_checkSlot : MethodName := ⟨RX5, "checkSlot", "(I)V"⟩
abbrev cX5_checkNote : ByteArray := prog_1_method_37_code
def yX5_checkNote : MethodName := ⟨RX5, "checkNote", "(I)V"⟩
abbrev cX5_bestSetting : ByteArray := prog_1_method_38_code
def yX5_bestSetting : MethodName := ⟨RX5, "bestSetting", "(II)I"⟩
abbrev cX5_withoutLastGroups : ByteArray := prog_1_method_39_code
def yX5_withoutLastGroups : MethodName := ⟨RX5, "withoutLastGroups", "(JI)J"⟩
abbrev cX5_quotientBits : ByteArray := prog_1_method_40_code
def yX5_quotientBits : MethodName := ⟨RX5, "quotientBits", "(II)I"⟩
def RX6 : String := "BranchNotesModel"
def TX6 : u_T := fun k => match k with
  | _ => ("", "", "", false)
def tyX6 : Nat → FieldType := fun k => match k with
  | _ => .int
abbrev wsX60 : List Cond := u_ws RX6 TX6 0
theorem nmX6 : ∀ a, a < 0 → ∀ b, b < 0 → a ≠ b → (TX6 a).2.1 ≠ (TX6 b).2.1 := by decide +kernel
theorem tyX6_ok : ∀ k, k < 0 → parseFieldDescriptor (TX6 k).2.2.1 = some (tyX6 k) := by decide +kernel
def RJx145de : String := "java/io/Serializable"
def TJx145de : u_T := fun k => match k with
  | _ => ("", "", "", false)
def tyJx145de : Nat → FieldType := fun k => match k with
  | _ => .int
abbrev wsJx145de0 : List Cond := u_ws RJx145de TJx145de 0
theorem nmJx145de : ∀ a, a < 0 → ∀ b, b < 0 → a ≠ b → (TJx145de a).2.1 ≠ (TJx145de b).2.1 := by decide +kernel
theorem tyJx145de_ok : ∀ k, k < 0 → parseFieldDescriptor (TJx145de k).2.2.1 = some (tyJx145de k) := by decide +kernel
def RJ9 : String := "java/lang/Math"
def TJ9 : u_T := fun k => match k with
  | _ => ("", "", "", false)
def tyJ9 : Nat → FieldType := fun k => match k with
  | _ => .int
abbrev wsJ90 : List Cond := u_ws RJ9 TJ9 0
theorem nmJ9 : ∀ a, a < 0 → ∀ b, b < 0 → a ≠ b → (TJ9 a).2.1 ≠ (TJ9 b).2.1 := by decide +kernel
theorem tyJ9_ok : ∀ k, k < 0 → parseFieldDescriptor (TJ9 k).2.2.1 = some (tyJ9 k) := by decide +kernel
abbrev cJ9_max_7cf53 : ByteArray := prog_13_method_65_code
def yJ9_max_7cf53 : MethodName := ⟨RJ9, "max", "(II)I"⟩
abbrev cJ9_min_7cf53 : ByteArray := prog_13_method_69_code
def yJ9_min_7cf53 : MethodName := ⟨RJ9, "min", "(II)I"⟩
def RJ0 : String := "java/lang/String"
def TJ0 : u_T := fun k => match k with
  | _ => ("", "", "", false)
def tyJ0 : Nat → FieldType := fun k => match k with
  | _ => .int
abbrev wsJ00 : List Cond := u_ws RJ0 TJ0 0
theorem nmJ0 : ∀ a, a < 0 → ∀ b, b < 0 → a ≠ b → (TJ0 a).2.1 ≠ (TJ0 b).2.1 := by decide +kernel
theorem tyJ0_ok : ∀ k, k < 0 → parseFieldDescriptor (TJ0 k).2.2.1 = some (tyJ0 k) := by decide +kernel
def RJ10 : String := "java/lang/System"
def TJ10 : u_T := fun k => match k with
  | _ => ("", "", "", false)
def tyJ10 : Nat → FieldType := fun k => match k with
  | _ => .int
abbrev wsJ100 : List Cond := u_ws RJ10 TJ10 0
theorem nmJ10 : ∀ a, a < 0 → ∀ b, b < 0 → a ≠ b → (TJ10 a).2.1 ≠ (TJ10 b).2.1 := by decide +kernel
theorem tyJ10_ok : ∀ k, k < 0 → parseFieldDescriptor (TJ10 k).2.2.1 = some (tyJ10 k) := by decide +kernel
def RJ7 : String := "java/util/Arrays"
def TJ7 : u_T := fun k => match k with
  | _ => ("", "", "", false)
def tyJ7 : Nat → FieldType := fun k => match k with
  | _ => .int
abbrev wsJ70 : List Cond := u_ws RJ7 TJ7 0
theorem nmJ7 : ∀ a, a < 0 → ∀ b, b < 0 → a ≠ b → (TJ7 a).2.1 ≠ (TJ7 b).2.1 := by decide +kernel
theorem tyJ7_ok : ∀ k, k < 0 → parseFieldDescriptor (TJ7 k).2.2.1 = some (tyJ7 k) := by decide +kernel
abbrev cJ7_fill_53178 : ByteArray := prog_18_method_103_code
def yJ7_fill_53178 : MethodName := ⟨RJ7, "fill", "([II)V"⟩
def RL : String := "BranchNotesLaw"
abbrev cL_tryScript : ByteArray := method_2_code
def yL_tryScript : MethodName := ⟨RL, "tryScript", "(LBranchNotes;IJ)I"⟩
abbrev cL_trySimulate : ByteArray := method_3_code
def yL_trySimulate : MethodName := ⟨RL, "trySimulate", "(LBranchNotes;JI)I"⟩
abbrev cL_tryGo : ByteArray := method_4_code
def yL_tryGo : MethodName := ⟨RL, "tryGo", "(LBranchNotes;IZ)I"⟩
abbrev cL_tryAppend : ByteArray := method_5_code
def yL_tryAppend : MethodName := ⟨RL, "tryAppend", "(LBranchNotes;I)I"⟩
abbrev cL_tryAbout : ByteArray := method_6_code
def yL_tryAbout : MethodName := ⟨RL, "tryAbout", "(LBranchNotes;I)I"⟩
abbrev cL_tryDesk : ByteArray := method_7_code
def yL_tryDesk : MethodName := ⟨RL, "tryDesk", "(LBranchNotes;II)I"⟩
abbrev cL_tryNote : ByteArray := method_8_code
def yL_tryNote : MethodName := ⟨RL, "tryNote", "(LBranchNotes;III)I"⟩
abbrev cL_tryPlace : ByteArray := method_9_code
def yL_tryPlace : MethodName := ⟨RL, "tryPlace", "(LBranchNotes;II)I"⟩
abbrev cL_tryPath : ByteArray := method_10_code
def yL_tryPath : MethodName := ⟨RL, "tryPath", "(LBranchNotes;II)I"⟩
abbrev cL_tryNumber : ByteArray := method_11_code
def yL_tryNumber : MethodName := ⟨RL, "tryNumber", "(LBranchNotes;II)I"⟩
abbrev cL_tryShare : ByteArray := method_12_code
def yL_tryShare : MethodName := ⟨RL, "tryShare", "(LBranchNotes;I)I"⟩
abbrev cL_tryTune : ByteArray := method_13_code
def yL_tryTune : MethodName := ⟨RL, "tryTune", "(LBranchNotes;III)I"⟩
abbrev cL_trySet : ByteArray := method_14_code
def yL_trySet : MethodName := ⟨RL, "trySet", "(LBranchNotes;II)I"⟩
abbrev cL_tryGrow : ByteArray := method_15_code
def yL_tryGrow : MethodName := ⟨RL, "tryGrow", "(LBranchNotes;III)I"⟩
abbrev cL_tryPlay : ByteArray := method_16_code
def yL_tryPlay : MethodName := ⟨RL, "tryPlay", "(LBranchNotes;)I"⟩
abbrev cL_tryUndo : ByteArray := method_17_code
def yL_tryUndo : MethodName := ⟨RL, "tryUndo", "(LBranchNotes;)I"⟩
abbrev cL_tryMixing : ByteArray := method_18_code
def yL_tryMixing : MethodName := ⟨RL, "tryMixing", "(LBranchNotes;I)I"⟩
abbrev cL_tryLength : ByteArray := method_19_code
def yL_tryLength : MethodName := ⟨RL, "tryLength", "(LBranchNotes;I)I"⟩
abbrev cL_trySharing : ByteArray := method_20_code
def yL_trySharing : MethodName := ⟨RL, "trySharing", "(LBranchNotes;II)I"⟩
abbrev cL_tryHolds : ByteArray := method_21_code
def yL_tryHolds : MethodName := ⟨RL, "tryHolds", "(LBranchNotes;I)I"⟩
abbrev cL_tryKeep : ByteArray := method_22_code
def yL_tryKeep : MethodName := ⟨RL, "tryKeep", "(LBranchNotes;I)I"⟩
abbrev cL_tryBack : ByteArray := method_23_code
def yL_tryBack : MethodName := ⟨RL, "tryBack", "(LBranchNotes;I)I"⟩
abbrev cL_call : ByteArray := method_24_code
def yL_call : MethodName := ⟨RL, "call", "(LBranchNotes;IIII)I"⟩
abbrev cL_cell : ByteArray := method_25_code
def yL_cell : MethodName := ⟨RL, "cell", "([II)I"⟩
abbrev cL_refuses : ByteArray := method_26_code
def yL_refuses : MethodName := ⟨RL, "refuses", "(LBranchNotes;I)Z"⟩
abbrev cL_alike : ByteArray := method_27_code
def yL_alike : MethodName := ⟨RL, "alike", "(LBranchNotes;LBranchNotes;I)Z"⟩
abbrev cL_holds : ByteArray := method_28_code
def yL_holds : MethodName := ⟨RL, "holds", "(LBranchNotes;I)Z"⟩
abbrev cL_act : ByteArray := method_29_code
def yL_act : MethodName := ⟨RL, "act", "(LBranchNotes;II)I"⟩
abbrev cL_law : ByteArray := code
def yL_law : MethodName := ⟨RL, "law", "([I)Z"⟩
def wsX0_init : List Cond := .code yX0_init cX0_init 1 none :: ([.methodLink RX0 3 objectInit, .instanceMethod objectInit, .code objectInit ⟨#[0xb1]⟩ 1 none, .arrayClass .int, .fieldLink RX0 9 "BranchNotes$Desk" "settings" "[I", .fieldLink RX0 15 "BranchNotes$Desk" "strengths" "[I", .fieldLink RX0 18 "BranchNotes$Desk" "lastPlaces" "[I", .fieldLink RX0 21 "BranchNotes$Desk" "uses" "[I", .fieldLink RX0 24 "BranchNotes$Desk" "rights" "[I", .fieldLink RX0 27 "BranchNotes$Desk" "paths" "[I"] ++ wsX00)
def wsX0_copyFrom : List Cond := .code yX0_copyFrom cX0_copyFrom 2 none :: ([.fieldLink RX0 9 "BranchNotes$Desk" "settings" "[I", .methodLink RX0 30 arraycopyName, .native arraycopyName, .static arraycopyName, .initialized "java/lang/System", .fieldLink RX0 15 "BranchNotes$Desk" "strengths" "[I", .fieldLink RX0 18 "BranchNotes$Desk" "lastPlaces" "[I", .fieldLink RX0 21 "BranchNotes$Desk" "uses" "[I", .fieldLink RX0 24 "BranchNotes$Desk" "rights" "[I", .fieldLink RX0 27 "BranchNotes$Desk" "paths" "[I", .fieldLink RX0 36 "BranchNotes$Desk" "clashes" "I", .fieldLink RX0 40 "BranchNotes$Desk" "right" "I"] ++ wsX00)
def wsJ7_fill_53178 : List Cond := .code yJ7_fill_53178 cJ7_fill_53178 4 none :: ([])
def wsX0_beginAnew : List Cond := .code yX0_beginAnew cX0_beginAnew 2 none :: ([.fieldLink RX0 15 "BranchNotes$Desk" "strengths" "[I", .fieldLink RX0 18 "BranchNotes$Desk" "lastPlaces" "[I", .constant RX0 49 (-99999), .fieldLink RX0 21 "BranchNotes$Desk" "uses" "[I", .fieldLink RX0 24 "BranchNotes$Desk" "rights" "[I", .fieldLink RX0 27 "BranchNotes$Desk" "paths" "[I", .fieldLink RX0 36 "BranchNotes$Desk" "clashes" "I", .fieldLink RX0 40 "BranchNotes$Desk" "right" "I", .methodLink RX0 43 yJ7_fill_53178, .static yJ7_fill_53178, .initialized RJ7, .code yJ7_fill_53178 cJ7_fill_53178 4 none] ++ wsX00)
def wsX0_countUsed : List Cond := .code yX0_countUsed cX0_countUsed 3 (some .int) :: ([.fieldLink RX0 21 "BranchNotes$Desk" "uses" "[I"] ++ wsX00)
def wsX0_pathFor : List Cond := .code yX0_pathFor cX0_pathFor 2 (some .int) :: ([.fieldLink RX0 27 "BranchNotes$Desk" "paths" "[I", .fieldLink RX0 9 "BranchNotes$Desk" "settings" "[I"] ++ wsX00)
def wsX0_noteFor : List Cond := .code yX0_noteFor cX0_noteFor 5 (some .int) :: ([.fieldLink RX0 9 "BranchNotes$Desk" "settings" "[I", .methodLink RX0 50 yX0_pathFor, .instanceMethod yX0_pathFor, .selects RX0 yX0_pathFor yX0_pathFor, .initialized RX0, .code yX0_pathFor cX0_pathFor 2 (some .int), .fieldLink RX0 27 "BranchNotes$Desk" "paths" "[I"] ++ wsX00)
def wsX0_use : List Cond := .code yX0_use cX0_use 5 none :: ([.fieldLink RX0 21 "BranchNotes$Desk" "uses" "[I", .fieldLink RX0 18 "BranchNotes$Desk" "lastPlaces" "[I", .fieldLink RX0 36 "BranchNotes$Desk" "clashes" "I", .fieldLink RX0 15 "BranchNotes$Desk" "strengths" "[I", .fieldLink RX0 24 "BranchNotes$Desk" "rights" "[I", .fieldLink RX0 40 "BranchNotes$Desk" "right" "I", .methodLink RX0 54 Lib.Math.min.name, .static Lib.Math.min.name, .initialized "java/lang/Math", .code Lib.Math.min.name Lib.Math.min.code 2 (some .int), .methodLink RX0 60 Lib.Math.max.name, .static Lib.Math.max.name, .code Lib.Math.max.name Lib.Math.max.code 2 (some .int)] ++ wsX00)
def wsX0_changePath : List Cond := .code yX0_changePath cX0_changePath 4 none :: ([.fieldLink RX0 27 "BranchNotes$Desk" "paths" "[I", .fieldLink RX0 9 "BranchNotes$Desk" "settings" "[I", .methodLink RX0 50 yX0_pathFor, .instanceMethod yX0_pathFor, .selects RX0 yX0_pathFor yX0_pathFor, .initialized RX0, .code yX0_pathFor cX0_pathFor 2 (some .int)] ++ wsX00)
def wsX3_beginAnew_r1 : List Cond := [Cond.fieldLink RX3 17 "BranchNotes$State" "desks" "[LBranchNotes$Desk;", Cond.fieldLink RX3 9 "BranchNotes$State" "settings" "[I", Cond.fieldLink RX3 21 "BranchNotes$State" "choosers" "[I", Cond.fieldLink RX3 24 "BranchNotes$State" "goneAt" "[I", Cond.fieldLink RX3 27 "BranchNotes$State" "takenAt" "[I", Cond.fieldLink RX3 30 "BranchNotes$State" "rightAt" "[I", Cond.fieldLink RX3 48 "BranchNotes$State" "gone" "I", Cond.fieldLink RX3 52 "BranchNotes$State" "right" "I", Cond.fieldLink RX3 55 "BranchNotes$State" "points" "I", Cond.fieldLink RX3 58 "BranchNotes$State" "series" "I", Cond.fieldLink RX3 61 "BranchNotes$State" "longestSeries" "I", Cond.methodLink RX3 64 yX0_beginAnew, Cond.instanceMethod yX0_beginAnew, Cond.selects RX0 yX0_beginAnew yX0_beginAnew, Cond.initialized RX0, Cond.code yX0_beginAnew cX0_beginAnew 2 none, Cond.fieldLink RX0 15 "BranchNotes$Desk" "strengths" "[I", Cond.fieldLink RX0 18 "BranchNotes$Desk" "lastPlaces" "[I", Cond.constant RX0 49 (-99999), Cond.fieldLink RX0 21 "BranchNotes$Desk" "uses" "[I", Cond.fieldLink RX0 24 "BranchNotes$Desk" "rights" "[I", Cond.fieldLink RX0 27 "BranchNotes$Desk" "paths" "[I", Cond.fieldLink RX0 36 "BranchNotes$Desk" "clashes" "I", Cond.fieldLink RX0 40 "BranchNotes$Desk" "right" "I"]
def wsX3_beginAnew_r2 : List Cond := [Cond.methodLink RX0 43 yJ7_fill_53178, Cond.static yJ7_fill_53178, Cond.initialized RJ7, Cond.code yJ7_fill_53178 cJ7_fill_53178 4 none, Cond.methodLink RX3 67 yJ7_fill_53178]
def wsX3_beginAnew : List Cond := .code yX3_beginAnew cX3_beginAnew 2 none :: ((wsX3_beginAnew_r1 ++ wsX3_beginAnew_r2) ++ wsX30 ++ wsX00)
def wsX3_init_r1 : List Cond := [Cond.methodLink RX3 3 objectInit, Cond.instanceMethod objectInit, Cond.code objectInit ⟨#[0xb1]⟩ 1 none, Cond.arrayClass .int, Cond.fieldLink RX3 9 "BranchNotes$State" "settings" "[I", Cond.classLink RX3 15 RX0, Cond.fieldLink RX3 17 "BranchNotes$State" "desks" "[LBranchNotes$Desk;", Cond.fieldLink RX3 21 "BranchNotes$State" "choosers" "[I", Cond.fieldLink RX3 24 "BranchNotes$State" "goneAt" "[I", Cond.fieldLink RX3 27 "BranchNotes$State" "takenAt" "[I", Cond.fieldLink RX3 30 "BranchNotes$State" "rightAt" "[I", Cond.instantiable RX0 8, Cond.initialized RX0, Cond.fieldLink RX3 34 "BranchNotes$Desk" "settings" "[I", Cond.instanceMethod yX0_init, Cond.code yX0_init cX0_init 1 none, Cond.methodLink RX0 3 objectInit, Cond.fieldLink RX0 9 "BranchNotes$Desk" "settings" "[I", Cond.fieldLink RX0 15 "BranchNotes$Desk" "strengths" "[I", Cond.fieldLink RX0 18 "BranchNotes$Desk" "lastPlaces" "[I", Cond.fieldLink RX0 21 "BranchNotes$Desk" "uses" "[I", Cond.fieldLink RX0 24 "BranchNotes$Desk" "rights" "[I", Cond.fieldLink RX0 27 "BranchNotes$Desk" "paths" "[I", Cond.methodLink RX3 35 yX3_beginAnew]
def wsX3_init_r2 : List Cond := [Cond.instanceMethod yX3_beginAnew, Cond.selects RX3 yX3_beginAnew yX3_beginAnew, Cond.initialized RX3, Cond.code yX3_beginAnew cX3_beginAnew 2 none, Cond.fieldLink RX3 48 "BranchNotes$State" "gone" "I", Cond.fieldLink RX3 52 "BranchNotes$State" "right" "I", Cond.fieldLink RX3 55 "BranchNotes$State" "points" "I", Cond.fieldLink RX3 58 "BranchNotes$State" "series" "I", Cond.fieldLink RX3 61 "BranchNotes$State" "longestSeries" "I", Cond.methodLink RX3 64 yX0_beginAnew, Cond.instanceMethod yX0_beginAnew, Cond.selects RX0 yX0_beginAnew yX0_beginAnew, Cond.code yX0_beginAnew cX0_beginAnew 2 none, Cond.constant RX0 49 (-99999), Cond.fieldLink RX0 36 "BranchNotes$Desk" "clashes" "I", Cond.fieldLink RX0 40 "BranchNotes$Desk" "right" "I", Cond.methodLink RX0 43 yJ7_fill_53178, Cond.static yJ7_fill_53178, Cond.initialized RJ7, Cond.code yJ7_fill_53178 cJ7_fill_53178 4 none, Cond.methodLink RX3 67 yJ7_fill_53178]
def wsX3_init : List Cond := .code yX3_init cX3_init 2 none :: ((wsX3_init_r1 ++ wsX3_init_r2) ++ wsX30 ++ wsX00)
def wsX1_init_r1 : List Cond := [Cond.methodLink RX1 1 objectInit, Cond.instanceMethod objectInit, Cond.code objectInit ⟨#[0xb1]⟩ 1 none, Cond.classLink RX1 9 RX3, Cond.fieldLink RX1 11 "BranchNotes$History" "ring" "[LBranchNotes$State;", Cond.instantiable RX3 11, Cond.initialized RX3, Cond.methodLink RX1 15 yX3_init, Cond.instanceMethod yX3_init, Cond.code yX3_init cX3_init 2 none, Cond.methodLink RX3 3 objectInit, Cond.arrayClass .int, Cond.fieldLink RX3 9 "BranchNotes$State" "settings" "[I", Cond.classLink RX3 15 RX0, Cond.fieldLink RX3 17 "BranchNotes$State" "desks" "[LBranchNotes$Desk;", Cond.fieldLink RX3 21 "BranchNotes$State" "choosers" "[I", Cond.fieldLink RX3 24 "BranchNotes$State" "goneAt" "[I", Cond.fieldLink RX3 27 "BranchNotes$State" "takenAt" "[I", Cond.fieldLink RX3 30 "BranchNotes$State" "rightAt" "[I", Cond.instantiable RX0 8, Cond.initialized RX0, Cond.fieldLink RX3 34 "BranchNotes$Desk" "settings" "[I", Cond.instanceMethod yX0_init, Cond.code yX0_init cX0_init 1 none]
def wsX1_init_r2 : List Cond := [Cond.methodLink RX0 3 objectInit, Cond.fieldLink RX0 9 "BranchNotes$Desk" "settings" "[I", Cond.fieldLink RX0 15 "BranchNotes$Desk" "strengths" "[I", Cond.fieldLink RX0 18 "BranchNotes$Desk" "lastPlaces" "[I", Cond.fieldLink RX0 21 "BranchNotes$Desk" "uses" "[I", Cond.fieldLink RX0 24 "BranchNotes$Desk" "rights" "[I", Cond.fieldLink RX0 27 "BranchNotes$Desk" "paths" "[I", Cond.methodLink RX3 35 yX3_beginAnew, Cond.instanceMethod yX3_beginAnew, Cond.selects RX3 yX3_beginAnew yX3_beginAnew, Cond.code yX3_beginAnew cX3_beginAnew 2 none, Cond.fieldLink RX3 48 "BranchNotes$State" "gone" "I", Cond.fieldLink RX3 52 "BranchNotes$State" "right" "I", Cond.fieldLink RX3 55 "BranchNotes$State" "points" "I", Cond.fieldLink RX3 58 "BranchNotes$State" "series" "I", Cond.fieldLink RX3 61 "BranchNotes$State" "longestSeries" "I", Cond.methodLink RX3 64 yX0_beginAnew, Cond.instanceMethod yX0_beginAnew, Cond.selects RX0 yX0_beginAnew yX0_beginAnew, Cond.code yX0_beginAnew cX0_beginAnew 2 none, Cond.constant RX0 49 (-99999), Cond.fieldLink RX0 36 "BranchNotes$Desk" "clashes" "I", Cond.fieldLink RX0 40 "BranchNotes$Desk" "right" "I", Cond.methodLink RX0 43 yJ7_fill_53178]
def wsX1_init_r3 : List Cond := [Cond.static yJ7_fill_53178, Cond.initialized RJ7, Cond.code yJ7_fill_53178 cJ7_fill_53178 4 none, Cond.methodLink RX3 67 yJ7_fill_53178]
def wsX1_init : List Cond := .code yX1_init cX1_init 2 none :: ((wsX1_init_r1 ++ (wsX1_init_r2 ++ wsX1_init_r3)) ++ wsX10 ++ wsX30 ++ wsX00)
def wsX3_copyFrom_r1 : List Cond := [Cond.fieldLink RX3 9 "BranchNotes$State" "settings" "[I", Cond.methodLink RX3 38 arraycopyName, Cond.native arraycopyName, Cond.static arraycopyName, Cond.initialized "java/lang/System", Cond.fieldLink RX3 17 "BranchNotes$State" "desks" "[LBranchNotes$Desk;", Cond.fieldLink RX3 21 "BranchNotes$State" "choosers" "[I", Cond.fieldLink RX3 24 "BranchNotes$State" "goneAt" "[I", Cond.fieldLink RX3 27 "BranchNotes$State" "takenAt" "[I", Cond.fieldLink RX3 30 "BranchNotes$State" "rightAt" "[I", Cond.fieldLink RX3 48 "BranchNotes$State" "gone" "I", Cond.fieldLink RX3 52 "BranchNotes$State" "right" "I", Cond.fieldLink RX3 55 "BranchNotes$State" "points" "I", Cond.fieldLink RX3 58 "BranchNotes$State" "series" "I", Cond.fieldLink RX3 61 "BranchNotes$State" "longestSeries" "I", Cond.methodLink RX3 44 yX0_copyFrom, Cond.instanceMethod yX0_copyFrom, Cond.selects RX0 yX0_copyFrom yX0_copyFrom, Cond.initialized RX0, Cond.code yX0_copyFrom cX0_copyFrom 2 none, Cond.fieldLink RX0 9 "BranchNotes$Desk" "settings" "[I", Cond.methodLink RX0 30 arraycopyName, Cond.fieldLink RX0 15 "BranchNotes$Desk" "strengths" "[I", Cond.fieldLink RX0 18 "BranchNotes$Desk" "lastPlaces" "[I"]
def wsX3_copyFrom_r2 : List Cond := [Cond.fieldLink RX0 21 "BranchNotes$Desk" "uses" "[I", Cond.fieldLink RX0 24 "BranchNotes$Desk" "rights" "[I", Cond.fieldLink RX0 27 "BranchNotes$Desk" "paths" "[I", Cond.fieldLink RX0 36 "BranchNotes$Desk" "clashes" "I", Cond.fieldLink RX0 40 "BranchNotes$Desk" "right" "I"]
def wsX3_copyFrom : List Cond := .code yX3_copyFrom cX3_copyFrom 3 none :: ((wsX3_copyFrom_r1 ++ wsX3_copyFrom_r2) ++ wsX30 ++ wsX00)
def wsX1_remember_r1 : List Cond := [Cond.fieldLink RX1 16 "BranchNotes$History" "count" "I", Cond.fieldLink RX1 20 "BranchNotes$History" "oldest" "I", Cond.fieldLink RX1 11 "BranchNotes$History" "ring" "[LBranchNotes$State;", Cond.methodLink RX1 23 yX3_copyFrom, Cond.instanceMethod yX3_copyFrom, Cond.selects RX3 yX3_copyFrom yX3_copyFrom, Cond.initialized RX3, Cond.code yX3_copyFrom cX3_copyFrom 3 none, Cond.fieldLink RX3 9 "BranchNotes$State" "settings" "[I", Cond.methodLink RX3 38 arraycopyName, Cond.native arraycopyName, Cond.static arraycopyName, Cond.initialized "java/lang/System", Cond.fieldLink RX3 17 "BranchNotes$State" "desks" "[LBranchNotes$Desk;", Cond.fieldLink RX3 21 "BranchNotes$State" "choosers" "[I", Cond.fieldLink RX3 24 "BranchNotes$State" "goneAt" "[I", Cond.fieldLink RX3 27 "BranchNotes$State" "takenAt" "[I", Cond.fieldLink RX3 30 "BranchNotes$State" "rightAt" "[I", Cond.fieldLink RX3 48 "BranchNotes$State" "gone" "I", Cond.fieldLink RX3 52 "BranchNotes$State" "right" "I", Cond.fieldLink RX3 55 "BranchNotes$State" "points" "I", Cond.fieldLink RX3 58 "BranchNotes$State" "series" "I", Cond.fieldLink RX3 61 "BranchNotes$State" "longestSeries" "I", Cond.methodLink RX3 44 yX0_copyFrom]
def wsX1_remember_r2 : List Cond := [Cond.instanceMethod yX0_copyFrom, Cond.selects RX0 yX0_copyFrom yX0_copyFrom, Cond.initialized RX0, Cond.code yX0_copyFrom cX0_copyFrom 2 none, Cond.fieldLink RX0 9 "BranchNotes$Desk" "settings" "[I", Cond.methodLink RX0 30 arraycopyName, Cond.fieldLink RX0 15 "BranchNotes$Desk" "strengths" "[I", Cond.fieldLink RX0 18 "BranchNotes$Desk" "lastPlaces" "[I", Cond.fieldLink RX0 21 "BranchNotes$Desk" "uses" "[I", Cond.fieldLink RX0 24 "BranchNotes$Desk" "rights" "[I", Cond.fieldLink RX0 27 "BranchNotes$Desk" "paths" "[I", Cond.fieldLink RX0 36 "BranchNotes$Desk" "clashes" "I", Cond.fieldLink RX0 40 "BranchNotes$Desk" "right" "I"]
def wsX1_remember : List Cond := .code yX1_remember cX1_remember 2 none :: ((wsX1_remember_r1 ++ wsX1_remember_r2) ++ wsX10 ++ wsX30 ++ wsX00)
def wsX1_takeBack_r1 : List Cond := [Cond.fieldLink RX1 16 "BranchNotes$History" "count" "I", Cond.fieldLink RX1 11 "BranchNotes$History" "ring" "[LBranchNotes$State;", Cond.fieldLink RX1 20 "BranchNotes$History" "oldest" "I", Cond.methodLink RX1 23 yX3_copyFrom, Cond.instanceMethod yX3_copyFrom, Cond.selects RX3 yX3_copyFrom yX3_copyFrom, Cond.initialized RX3, Cond.code yX3_copyFrom cX3_copyFrom 3 none, Cond.fieldLink RX3 9 "BranchNotes$State" "settings" "[I", Cond.methodLink RX3 38 arraycopyName, Cond.native arraycopyName, Cond.static arraycopyName, Cond.initialized "java/lang/System", Cond.fieldLink RX3 17 "BranchNotes$State" "desks" "[LBranchNotes$Desk;", Cond.fieldLink RX3 21 "BranchNotes$State" "choosers" "[I", Cond.fieldLink RX3 24 "BranchNotes$State" "goneAt" "[I", Cond.fieldLink RX3 27 "BranchNotes$State" "takenAt" "[I", Cond.fieldLink RX3 30 "BranchNotes$State" "rightAt" "[I", Cond.fieldLink RX3 48 "BranchNotes$State" "gone" "I", Cond.fieldLink RX3 52 "BranchNotes$State" "right" "I", Cond.fieldLink RX3 55 "BranchNotes$State" "points" "I", Cond.fieldLink RX3 58 "BranchNotes$State" "series" "I", Cond.fieldLink RX3 61 "BranchNotes$State" "longestSeries" "I", Cond.methodLink RX3 44 yX0_copyFrom]
def wsX1_takeBack_r2 : List Cond := [Cond.instanceMethod yX0_copyFrom, Cond.selects RX0 yX0_copyFrom yX0_copyFrom, Cond.initialized RX0, Cond.code yX0_copyFrom cX0_copyFrom 2 none, Cond.fieldLink RX0 9 "BranchNotes$Desk" "settings" "[I", Cond.methodLink RX0 30 arraycopyName, Cond.fieldLink RX0 15 "BranchNotes$Desk" "strengths" "[I", Cond.fieldLink RX0 18 "BranchNotes$Desk" "lastPlaces" "[I", Cond.fieldLink RX0 21 "BranchNotes$Desk" "uses" "[I", Cond.fieldLink RX0 24 "BranchNotes$Desk" "rights" "[I", Cond.fieldLink RX0 27 "BranchNotes$Desk" "paths" "[I", Cond.fieldLink RX0 36 "BranchNotes$Desk" "clashes" "I", Cond.fieldLink RX0 40 "BranchNotes$Desk" "right" "I"]
def wsX1_takeBack : List Cond := .code yX1_takeBack cX1_takeBack 2 (some .boolean) :: ((wsX1_takeBack_r1 ++ wsX1_takeBack_r2) ++ wsX10 ++ wsX30 ++ wsX00)
def wsX5_isPlace : List Cond := .code yX5_isPlace cX5_isPlace 1 (some .boolean) :: ([])
def wsX3_deskSays : List Cond := .code yX3_deskSays cX3_deskSays 4 (some .boolean) :: ([.fieldLink RX3 17 "BranchNotes$State" "desks" "[LBranchNotes$Desk;", .fieldLink RX3 80 "BranchNotes$Desk" "strengths" "[I", .fieldLink RX3 9 "BranchNotes$State" "settings" "[I", .methodLink RX3 76 yX0_noteFor, .instanceMethod yX0_noteFor, .selects RX0 yX0_noteFor yX0_noteFor, .initialized RX0, .code yX0_noteFor cX0_noteFor 5 (some .int), .fieldLink RX0 9 "BranchNotes$Desk" "settings" "[I", .methodLink RX0 50 yX0_pathFor, .instanceMethod yX0_pathFor, .selects RX0 yX0_pathFor yX0_pathFor, .code yX0_pathFor cX0_pathFor 2 (some .int), .fieldLink RX0 27 "BranchNotes$Desk" "paths" "[I"] ++ wsX30 ++ wsX00)
def wsX3_countGuess : List Cond := .code yX3_countGuess cX3_countGuess 4 none :: ([.fieldLink RX3 48 "BranchNotes$State" "gone" "I", .fieldLink RX3 24 "BranchNotes$State" "goneAt" "[I", .fieldLink RX3 27 "BranchNotes$State" "takenAt" "[I", .fieldLink RX3 52 "BranchNotes$State" "right" "I", .fieldLink RX3 30 "BranchNotes$State" "rightAt" "[I", .fieldLink RX3 55 "BranchNotes$State" "points" "I", .fieldLink RX3 58 "BranchNotes$State" "series" "I", .fieldLink RX3 61 "BranchNotes$State" "longestSeries" "I", .methodLink RX3 115 Lib.Math.max.name, .static Lib.Math.max.name, .initialized "java/lang/Math", .code Lib.Math.max.name Lib.Math.max.code 2 (some .int), .fieldLink RX3 9 "BranchNotes$State" "settings" "[I"] ++ wsX30)
def wsX3_moveChooser : List Cond := .code yX3_moveChooser cX3_moveChooser 3 none :: ([.fieldLink RX3 21 "BranchNotes$State" "choosers" "[I", .methodLink RX3 120 Lib.Math.min.name, .static Lib.Math.min.name, .initialized "java/lang/Math", .code Lib.Math.min.name Lib.Math.min.code 2 (some .int), .methodLink RX3 115 Lib.Math.max.name, .static Lib.Math.max.name, .code Lib.Math.max.name Lib.Math.max.code 2 (some .int)] ++ wsX30)
def wsX3_noteFor : List Cond := .code yX3_noteFor cX3_noteFor 3 (some .int) :: ([.fieldLink RX3 17 "BranchNotes$State" "desks" "[LBranchNotes$Desk;", .fieldLink RX3 9 "BranchNotes$State" "settings" "[I", .methodLink RX3 76 yX0_noteFor, .instanceMethod yX0_noteFor, .selects RX0 yX0_noteFor yX0_noteFor, .initialized RX0, .code yX0_noteFor cX0_noteFor 5 (some .int), .fieldLink RX0 9 "BranchNotes$Desk" "settings" "[I", .methodLink RX0 50 yX0_pathFor, .instanceMethod yX0_pathFor, .selects RX0 yX0_pathFor yX0_pathFor, .code yX0_pathFor cX0_pathFor 2 (some .int), .fieldLink RX0 27 "BranchNotes$Desk" "paths" "[I"] ++ wsX30 ++ wsX00)
def wsX3_go_r1 : List Cond := [Cond.fieldLink RX3 21 "BranchNotes$State" "choosers" "[I", Cond.fieldLink RX3 17 "BranchNotes$State" "desks" "[LBranchNotes$Desk;", Cond.fieldLink RX3 9 "BranchNotes$State" "settings" "[I", Cond.methodLink RX3 83 yX3_deskSays, Cond.instanceMethod yX3_deskSays, Cond.selects RX3 yX3_deskSays yX3_deskSays, Cond.initialized RX3, Cond.code yX3_deskSays cX3_deskSays 4 (some .boolean), Cond.fieldLink RX3 80 "BranchNotes$Desk" "strengths" "[I", Cond.methodLink RX3 76 yX0_noteFor, Cond.instanceMethod yX0_noteFor, Cond.selects RX0 yX0_noteFor yX0_noteFor, Cond.initialized RX0, Cond.code yX0_noteFor cX0_noteFor 5 (some .int), Cond.fieldLink RX0 9 "BranchNotes$Desk" "settings" "[I", Cond.methodLink RX0 50 yX0_pathFor, Cond.instanceMethod yX0_pathFor, Cond.selects RX0 yX0_pathFor yX0_pathFor, Cond.code yX0_pathFor cX0_pathFor 2 (some .int), Cond.fieldLink RX0 27 "BranchNotes$Desk" "paths" "[I", Cond.methodLink RX3 87 yX3_countGuess, Cond.instanceMethod yX3_countGuess, Cond.selects RX3 yX3_countGuess yX3_countGuess, Cond.code yX3_countGuess cX3_countGuess 4 none]
def wsX3_go_r2 : List Cond := [Cond.fieldLink RX3 48 "BranchNotes$State" "gone" "I", Cond.fieldLink RX3 24 "BranchNotes$State" "goneAt" "[I", Cond.fieldLink RX3 27 "BranchNotes$State" "takenAt" "[I", Cond.fieldLink RX3 52 "BranchNotes$State" "right" "I", Cond.fieldLink RX3 30 "BranchNotes$State" "rightAt" "[I", Cond.fieldLink RX3 55 "BranchNotes$State" "points" "I", Cond.fieldLink RX3 58 "BranchNotes$State" "series" "I", Cond.fieldLink RX3 61 "BranchNotes$State" "longestSeries" "I", Cond.methodLink RX3 115 Lib.Math.max.name, Cond.static Lib.Math.max.name, Cond.initialized "java/lang/Math", Cond.code Lib.Math.max.name Lib.Math.max.code 2 (some .int), Cond.methodLink RX3 91 yX3_moveChooser, Cond.instanceMethod yX3_moveChooser, Cond.selects RX3 yX3_moveChooser yX3_moveChooser, Cond.code yX3_moveChooser cX3_moveChooser 3 none, Cond.methodLink RX3 120 Lib.Math.min.name, Cond.static Lib.Math.min.name, Cond.code Lib.Math.min.name Lib.Math.min.code 2 (some .int), Cond.methodLink RX3 95 yX3_noteFor, Cond.instanceMethod yX3_noteFor, Cond.selects RX3 yX3_noteFor yX3_noteFor, Cond.code yX3_noteFor cX3_noteFor 3 (some .int), Cond.methodLink RX3 96 yX0_use]
def wsX3_go_r3 : List Cond := [Cond.instanceMethod yX0_use, Cond.selects RX0 yX0_use yX0_use, Cond.code yX0_use cX0_use 5 none, Cond.fieldLink RX0 21 "BranchNotes$Desk" "uses" "[I", Cond.fieldLink RX0 18 "BranchNotes$Desk" "lastPlaces" "[I", Cond.fieldLink RX0 36 "BranchNotes$Desk" "clashes" "I", Cond.fieldLink RX0 15 "BranchNotes$Desk" "strengths" "[I", Cond.fieldLink RX0 24 "BranchNotes$Desk" "rights" "[I", Cond.fieldLink RX0 40 "BranchNotes$Desk" "right" "I", Cond.methodLink RX0 54 Lib.Math.min.name, Cond.methodLink RX0 60 Lib.Math.max.name, Cond.methodLink RX3 100 yX0_changePath, Cond.instanceMethod yX0_changePath, Cond.selects RX0 yX0_changePath yX0_changePath, Cond.code yX0_changePath cX0_changePath 4 none]
def wsX3_go : List Cond := .code yX3_go cX3_go 7 (some .boolean) :: ((wsX3_go_r1 ++ (wsX3_go_r2 ++ wsX3_go_r3)) ++ wsX30 ++ wsX00)
def wsX2_goOften_r1 : List Cond := [Cond.static yX5_isPlace, Cond.initialized RX5, Cond.code yX5_isPlace cX5_isPlace 1 (some .boolean), Cond.methodLink RX2 61 yX3_go, Cond.instanceMethod yX3_go, Cond.selects RX3 yX3_go yX3_go, Cond.initialized RX3, Cond.code yX3_go cX3_go 7 (some .boolean), Cond.fieldLink RX3 21 "BranchNotes$State" "choosers" "[I", Cond.fieldLink RX3 17 "BranchNotes$State" "desks" "[LBranchNotes$Desk;", Cond.fieldLink RX3 9 "BranchNotes$State" "settings" "[I", Cond.methodLink RX3 83 yX3_deskSays, Cond.instanceMethod yX3_deskSays, Cond.selects RX3 yX3_deskSays yX3_deskSays, Cond.code yX3_deskSays cX3_deskSays 4 (some .boolean), Cond.fieldLink RX3 80 "BranchNotes$Desk" "strengths" "[I", Cond.methodLink RX3 76 yX0_noteFor, Cond.instanceMethod yX0_noteFor, Cond.selects RX0 yX0_noteFor yX0_noteFor, Cond.initialized RX0, Cond.code yX0_noteFor cX0_noteFor 5 (some .int), Cond.fieldLink RX0 9 "BranchNotes$Desk" "settings" "[I", Cond.methodLink RX0 50 yX0_pathFor, Cond.instanceMethod yX0_pathFor]
def wsX2_goOften_r2 : List Cond := [Cond.selects RX0 yX0_pathFor yX0_pathFor, Cond.code yX0_pathFor cX0_pathFor 2 (some .int), Cond.fieldLink RX0 27 "BranchNotes$Desk" "paths" "[I", Cond.methodLink RX3 87 yX3_countGuess, Cond.instanceMethod yX3_countGuess, Cond.selects RX3 yX3_countGuess yX3_countGuess, Cond.code yX3_countGuess cX3_countGuess 4 none, Cond.fieldLink RX3 48 "BranchNotes$State" "gone" "I", Cond.fieldLink RX3 24 "BranchNotes$State" "goneAt" "[I", Cond.fieldLink RX3 27 "BranchNotes$State" "takenAt" "[I", Cond.fieldLink RX3 52 "BranchNotes$State" "right" "I", Cond.fieldLink RX3 30 "BranchNotes$State" "rightAt" "[I", Cond.fieldLink RX3 55 "BranchNotes$State" "points" "I", Cond.fieldLink RX3 58 "BranchNotes$State" "series" "I", Cond.fieldLink RX3 61 "BranchNotes$State" "longestSeries" "I", Cond.methodLink RX3 115 Lib.Math.max.name, Cond.static Lib.Math.max.name, Cond.initialized "java/lang/Math", Cond.code Lib.Math.max.name Lib.Math.max.code 2 (some .int), Cond.methodLink RX3 91 yX3_moveChooser, Cond.instanceMethod yX3_moveChooser, Cond.selects RX3 yX3_moveChooser yX3_moveChooser, Cond.code yX3_moveChooser cX3_moveChooser 3 none, Cond.methodLink RX3 120 Lib.Math.min.name]
def wsX2_goOften_r3 : List Cond := [Cond.static Lib.Math.min.name, Cond.code Lib.Math.min.name Lib.Math.min.code 2 (some .int), Cond.methodLink RX3 95 yX3_noteFor, Cond.instanceMethod yX3_noteFor, Cond.selects RX3 yX3_noteFor yX3_noteFor, Cond.code yX3_noteFor cX3_noteFor 3 (some .int), Cond.methodLink RX3 96 yX0_use, Cond.instanceMethod yX0_use, Cond.selects RX0 yX0_use yX0_use, Cond.code yX0_use cX0_use 5 none, Cond.fieldLink RX0 21 "BranchNotes$Desk" "uses" "[I", Cond.fieldLink RX0 18 "BranchNotes$Desk" "lastPlaces" "[I", Cond.fieldLink RX0 36 "BranchNotes$Desk" "clashes" "I", Cond.fieldLink RX0 15 "BranchNotes$Desk" "strengths" "[I", Cond.fieldLink RX0 24 "BranchNotes$Desk" "rights" "[I", Cond.fieldLink RX0 40 "BranchNotes$Desk" "right" "I", Cond.methodLink RX0 54 Lib.Math.min.name, Cond.methodLink RX0 60 Lib.Math.max.name, Cond.methodLink RX3 100 yX0_changePath, Cond.instanceMethod yX0_changePath, Cond.selects RX0 yX0_changePath yX0_changePath, Cond.code yX0_changePath cX0_changePath 4 none]
def wsX2_goOften : List Cond := .code yX2_goOften cX2_goOften 5 (some .boolean) :: ((wsX2_goOften_r1 ++ (wsX2_goOften_r2 ++ wsX2_goOften_r3)) ++ wsX30 ++ wsX00)
def wsX5_isDesk : List Cond := .code yX5_isDesk cX5_isDesk 1 (some .boolean) :: ([])
def wsX5_isDeskSetting : List Cond := .code yX5_isDeskSetting cX5_isDeskSetting 2 (some .boolean) :: ([.fieldLink RX5 253 "BranchNotes" "DESK_MOST" "[I"])
def wsX3_changeDesk_r1 : List Cond := [Cond.fieldLink RX3 17 "BranchNotes$State" "desks" "[LBranchNotes$Desk;", Cond.fieldLink RX3 34 "BranchNotes$Desk" "settings" "[I", Cond.methodLink RX3 35 yX3_beginAnew, Cond.instanceMethod yX3_beginAnew, Cond.selects RX3 yX3_beginAnew yX3_beginAnew, Cond.initialized RX3, Cond.code yX3_beginAnew cX3_beginAnew 2 none, Cond.fieldLink RX3 9 "BranchNotes$State" "settings" "[I", Cond.fieldLink RX3 21 "BranchNotes$State" "choosers" "[I", Cond.fieldLink RX3 24 "BranchNotes$State" "goneAt" "[I", Cond.fieldLink RX3 27 "BranchNotes$State" "takenAt" "[I", Cond.fieldLink RX3 30 "BranchNotes$State" "rightAt" "[I", Cond.fieldLink RX3 48 "BranchNotes$State" "gone" "I", Cond.fieldLink RX3 52 "BranchNotes$State" "right" "I", Cond.fieldLink RX3 55 "BranchNotes$State" "points" "I", Cond.fieldLink RX3 58 "BranchNotes$State" "series" "I", Cond.fieldLink RX3 61 "BranchNotes$State" "longestSeries" "I", Cond.methodLink RX3 64 yX0_beginAnew, Cond.instanceMethod yX0_beginAnew, Cond.selects RX0 yX0_beginAnew yX0_beginAnew, Cond.initialized RX0, Cond.code yX0_beginAnew cX0_beginAnew 2 none, Cond.fieldLink RX0 15 "BranchNotes$Desk" "strengths" "[I", Cond.fieldLink RX0 18 "BranchNotes$Desk" "lastPlaces" "[I"]
def wsX3_changeDesk_r2 : List Cond := [Cond.constant RX0 49 (-99999), Cond.fieldLink RX0 21 "BranchNotes$Desk" "uses" "[I", Cond.fieldLink RX0 24 "BranchNotes$Desk" "rights" "[I", Cond.fieldLink RX0 27 "BranchNotes$Desk" "paths" "[I", Cond.fieldLink RX0 36 "BranchNotes$Desk" "clashes" "I", Cond.fieldLink RX0 40 "BranchNotes$Desk" "right" "I", Cond.methodLink RX0 43 yJ7_fill_53178, Cond.static yJ7_fill_53178, Cond.initialized RJ7, Cond.code yJ7_fill_53178 cJ7_fill_53178 4 none, Cond.methodLink RX3 67 yJ7_fill_53178]
def wsX3_changeDesk : List Cond := .code yX3_changeDesk cX3_changeDesk 4 none :: ((wsX3_changeDesk_r1 ++ wsX3_changeDesk_r2) ++ wsX30 ++ wsX00)
def wsX2_changeDesk_r1 : List Cond := [Cond.static yX5_isDesk, Cond.initialized RX5, Cond.code yX5_isDesk cX5_isDesk 1 (some .boolean), Cond.static yX5_isDeskSetting, Cond.code yX5_isDeskSetting cX5_isDeskSetting 2 (some .boolean), Cond.fieldLink RX5 253 "BranchNotes" "DESK_MOST" "[I", Cond.methodLink RX2 69 yX3_changeDesk, Cond.instanceMethod yX3_changeDesk, Cond.selects RX3 yX3_changeDesk yX3_changeDesk, Cond.initialized RX3, Cond.code yX3_changeDesk cX3_changeDesk 4 none, Cond.fieldLink RX3 17 "BranchNotes$State" "desks" "[LBranchNotes$Desk;", Cond.fieldLink RX3 34 "BranchNotes$Desk" "settings" "[I", Cond.methodLink RX3 35 yX3_beginAnew, Cond.instanceMethod yX3_beginAnew, Cond.selects RX3 yX3_beginAnew yX3_beginAnew, Cond.code yX3_beginAnew cX3_beginAnew 2 none, Cond.fieldLink RX3 9 "BranchNotes$State" "settings" "[I", Cond.fieldLink RX3 21 "BranchNotes$State" "choosers" "[I", Cond.fieldLink RX3 24 "BranchNotes$State" "goneAt" "[I", Cond.fieldLink RX3 27 "BranchNotes$State" "takenAt" "[I", Cond.fieldLink RX3 30 "BranchNotes$State" "rightAt" "[I", Cond.fieldLink RX3 48 "BranchNotes$State" "gone" "I", Cond.fieldLink RX3 52 "BranchNotes$State" "right" "I"]
def wsX2_changeDesk_r2 : List Cond := [Cond.fieldLink RX3 55 "BranchNotes$State" "points" "I", Cond.fieldLink RX3 58 "BranchNotes$State" "series" "I", Cond.fieldLink RX3 61 "BranchNotes$State" "longestSeries" "I", Cond.methodLink RX3 64 yX0_beginAnew, Cond.instanceMethod yX0_beginAnew, Cond.selects RX0 yX0_beginAnew yX0_beginAnew, Cond.initialized RX0, Cond.code yX0_beginAnew cX0_beginAnew 2 none, Cond.fieldLink RX0 15 "BranchNotes$Desk" "strengths" "[I", Cond.fieldLink RX0 18 "BranchNotes$Desk" "lastPlaces" "[I", Cond.constant RX0 49 (-99999), Cond.fieldLink RX0 21 "BranchNotes$Desk" "uses" "[I", Cond.fieldLink RX0 24 "BranchNotes$Desk" "rights" "[I", Cond.fieldLink RX0 27 "BranchNotes$Desk" "paths" "[I", Cond.fieldLink RX0 36 "BranchNotes$Desk" "clashes" "I", Cond.fieldLink RX0 40 "BranchNotes$Desk" "right" "I", Cond.methodLink RX0 43 yJ7_fill_53178, Cond.static yJ7_fill_53178, Cond.initialized RJ7, Cond.code yJ7_fill_53178 cJ7_fill_53178 4 none, Cond.methodLink RX3 67 yJ7_fill_53178]
def wsX2_changeDesk : List Cond := .code yX2_changeDesk cX2_changeDesk 4 (some .boolean) :: ((wsX2_changeDesk_r1 ++ wsX2_changeDesk_r2) ++ wsX30 ++ wsX00)
def wsX5_isCommonSetting : List Cond := .code yX5_isCommonSetting cX5_isCommonSetting 2 (some .boolean) :: ([.fieldLink RX5 256 "BranchNotes" "COMMON_LEAST" "[I", .fieldLink RX5 259 "BranchNotes" "COMMON_MOST" "[I"])
def wsX3_changeBoth_r1 : List Cond := [Cond.fieldLink RX3 9 "BranchNotes$State" "settings" "[I", Cond.methodLink RX3 35 yX3_beginAnew, Cond.instanceMethod yX3_beginAnew, Cond.selects RX3 yX3_beginAnew yX3_beginAnew, Cond.initialized RX3, Cond.code yX3_beginAnew cX3_beginAnew 2 none, Cond.fieldLink RX3 17 "BranchNotes$State" "desks" "[LBranchNotes$Desk;", Cond.fieldLink RX3 21 "BranchNotes$State" "choosers" "[I", Cond.fieldLink RX3 24 "BranchNotes$State" "goneAt" "[I", Cond.fieldLink RX3 27 "BranchNotes$State" "takenAt" "[I", Cond.fieldLink RX3 30 "BranchNotes$State" "rightAt" "[I", Cond.fieldLink RX3 48 "BranchNotes$State" "gone" "I", Cond.fieldLink RX3 52 "BranchNotes$State" "right" "I", Cond.fieldLink RX3 55 "BranchNotes$State" "points" "I", Cond.fieldLink RX3 58 "BranchNotes$State" "series" "I", Cond.fieldLink RX3 61 "BranchNotes$State" "longestSeries" "I", Cond.methodLink RX3 64 yX0_beginAnew, Cond.instanceMethod yX0_beginAnew, Cond.selects RX0 yX0_beginAnew yX0_beginAnew, Cond.initialized RX0, Cond.code yX0_beginAnew cX0_beginAnew 2 none, Cond.fieldLink RX0 15 "BranchNotes$Desk" "strengths" "[I", Cond.fieldLink RX0 18 "BranchNotes$Desk" "lastPlaces" "[I", Cond.constant RX0 49 (-99999)]
def wsX3_changeBoth_r2 : List Cond := [Cond.fieldLink RX0 21 "BranchNotes$Desk" "uses" "[I", Cond.fieldLink RX0 24 "BranchNotes$Desk" "rights" "[I", Cond.fieldLink RX0 27 "BranchNotes$Desk" "paths" "[I", Cond.fieldLink RX0 36 "BranchNotes$Desk" "clashes" "I", Cond.fieldLink RX0 40 "BranchNotes$Desk" "right" "I", Cond.methodLink RX0 43 yJ7_fill_53178, Cond.static yJ7_fill_53178, Cond.initialized RJ7, Cond.code yJ7_fill_53178 cJ7_fill_53178 4 none, Cond.methodLink RX3 67 yJ7_fill_53178]
def wsX3_changeBoth : List Cond := .code yX3_changeBoth cX3_changeBoth 3 none :: ((wsX3_changeBoth_r1 ++ wsX3_changeBoth_r2) ++ wsX30 ++ wsX00)
def wsX2_changeBoth_r1 : List Cond := [Cond.static yX5_isCommonSetting, Cond.initialized RX5, Cond.code yX5_isCommonSetting cX5_isCommonSetting 2 (some .boolean), Cond.fieldLink RX5 256 "BranchNotes" "COMMON_LEAST" "[I", Cond.fieldLink RX5 259 "BranchNotes" "COMMON_MOST" "[I", Cond.methodLink RX2 75 yX3_changeBoth, Cond.instanceMethod yX3_changeBoth, Cond.selects RX3 yX3_changeBoth yX3_changeBoth, Cond.initialized RX3, Cond.code yX3_changeBoth cX3_changeBoth 3 none, Cond.fieldLink RX3 9 "BranchNotes$State" "settings" "[I", Cond.methodLink RX3 35 yX3_beginAnew, Cond.instanceMethod yX3_beginAnew, Cond.selects RX3 yX3_beginAnew yX3_beginAnew, Cond.code yX3_beginAnew cX3_beginAnew 2 none, Cond.fieldLink RX3 17 "BranchNotes$State" "desks" "[LBranchNotes$Desk;", Cond.fieldLink RX3 21 "BranchNotes$State" "choosers" "[I", Cond.fieldLink RX3 24 "BranchNotes$State" "goneAt" "[I", Cond.fieldLink RX3 27 "BranchNotes$State" "takenAt" "[I", Cond.fieldLink RX3 30 "BranchNotes$State" "rightAt" "[I", Cond.fieldLink RX3 48 "BranchNotes$State" "gone" "I", Cond.fieldLink RX3 52 "BranchNotes$State" "right" "I", Cond.fieldLink RX3 55 "BranchNotes$State" "points" "I", Cond.fieldLink RX3 58 "BranchNotes$State" "series" "I"]
def wsX2_changeBoth_r2 : List Cond := [Cond.fieldLink RX3 61 "BranchNotes$State" "longestSeries" "I", Cond.methodLink RX3 64 yX0_beginAnew, Cond.instanceMethod yX0_beginAnew, Cond.selects RX0 yX0_beginAnew yX0_beginAnew, Cond.initialized RX0, Cond.code yX0_beginAnew cX0_beginAnew 2 none, Cond.fieldLink RX0 15 "BranchNotes$Desk" "strengths" "[I", Cond.fieldLink RX0 18 "BranchNotes$Desk" "lastPlaces" "[I", Cond.constant RX0 49 (-99999), Cond.fieldLink RX0 21 "BranchNotes$Desk" "uses" "[I", Cond.fieldLink RX0 24 "BranchNotes$Desk" "rights" "[I", Cond.fieldLink RX0 27 "BranchNotes$Desk" "paths" "[I", Cond.fieldLink RX0 36 "BranchNotes$Desk" "clashes" "I", Cond.fieldLink RX0 40 "BranchNotes$Desk" "right" "I", Cond.methodLink RX0 43 yJ7_fill_53178, Cond.static yJ7_fill_53178, Cond.initialized RJ7, Cond.code yJ7_fill_53178 cJ7_fill_53178 4 none, Cond.methodLink RX3 67 yJ7_fill_53178]
def wsX2_changeBoth : List Cond := .code yX2_changeBoth cX2_changeBoth 3 (some .boolean) :: ((wsX2_changeBoth_r1 ++ wsX2_changeBoth_r2) ++ wsX30 ++ wsX00)
def wsX2_forgetAll_r1 : List Cond := [Cond.methodLink RX2 78 yX3_beginAnew, Cond.instanceMethod yX3_beginAnew, Cond.selects RX3 yX3_beginAnew yX3_beginAnew, Cond.initialized RX3, Cond.code yX3_beginAnew cX3_beginAnew 2 none, Cond.fieldLink RX3 17 "BranchNotes$State" "desks" "[LBranchNotes$Desk;", Cond.fieldLink RX3 9 "BranchNotes$State" "settings" "[I", Cond.fieldLink RX3 21 "BranchNotes$State" "choosers" "[I", Cond.fieldLink RX3 24 "BranchNotes$State" "goneAt" "[I", Cond.fieldLink RX3 27 "BranchNotes$State" "takenAt" "[I", Cond.fieldLink RX3 30 "BranchNotes$State" "rightAt" "[I", Cond.fieldLink RX3 48 "BranchNotes$State" "gone" "I", Cond.fieldLink RX3 52 "BranchNotes$State" "right" "I", Cond.fieldLink RX3 55 "BranchNotes$State" "points" "I", Cond.fieldLink RX3 58 "BranchNotes$State" "series" "I", Cond.fieldLink RX3 61 "BranchNotes$State" "longestSeries" "I", Cond.methodLink RX3 64 yX0_beginAnew, Cond.instanceMethod yX0_beginAnew, Cond.selects RX0 yX0_beginAnew yX0_beginAnew, Cond.initialized RX0, Cond.code yX0_beginAnew cX0_beginAnew 2 none, Cond.fieldLink RX0 15 "BranchNotes$Desk" "strengths" "[I", Cond.fieldLink RX0 18 "BranchNotes$Desk" "lastPlaces" "[I", Cond.constant RX0 49 (-99999)]
def wsX2_forgetAll_r2 : List Cond := [Cond.fieldLink RX0 21 "BranchNotes$Desk" "uses" "[I", Cond.fieldLink RX0 24 "BranchNotes$Desk" "rights" "[I", Cond.fieldLink RX0 27 "BranchNotes$Desk" "paths" "[I", Cond.fieldLink RX0 36 "BranchNotes$Desk" "clashes" "I", Cond.fieldLink RX0 40 "BranchNotes$Desk" "right" "I", Cond.methodLink RX0 43 yJ7_fill_53178, Cond.static yJ7_fill_53178, Cond.initialized RJ7, Cond.code yJ7_fill_53178 cJ7_fill_53178 4 none, Cond.methodLink RX3 67 yJ7_fill_53178]
def wsX2_forgetAll : List Cond := .code yX2_forgetAll cX2_forgetAll 1 (some .boolean) :: ((wsX2_forgetAll_r1 ++ wsX2_forgetAll_r2) ++ wsX30 ++ wsX00)
def wsX3_isNote : List Cond := .code yX3_isNote cX3_isNote 2 (some .boolean) :: ([.fieldLink RX3 9 "BranchNotes$State" "settings" "[I"] ++ wsX30)
def wsX3_isStrength : List Cond := .code yX3_isStrength cX3_isStrength 2 (some .boolean) :: ([.fieldLink RX3 9 "BranchNotes$State" "settings" "[I"] ++ wsX30)
def wsX2_makeStrength : List Cond := .code yX2_makeStrength cX2_makeStrength 4 (some .boolean) :: ([.fieldLink RX2 45 "BranchNotes$State" "desks" "[LBranchNotes$Desk;", .fieldLink RX2 49 "BranchNotes$Desk" "strengths" "[I", .static yX5_isDesk, .initialized RX5, .code yX5_isDesk cX5_isDesk 1 (some .boolean), .methodLink RX2 42 yX3_isNote, .instanceMethod yX3_isNote, .selects RX3 yX3_isNote yX3_isNote, .initialized RX3, .code yX3_isNote cX3_isNote 2 (some .boolean), .fieldLink RX3 9 "BranchNotes$State" "settings" "[I", .methodLink RX2 81 yX3_isStrength, .instanceMethod yX3_isStrength, .selects RX3 yX3_isStrength yX3_isStrength, .code yX3_isStrength cX3_isStrength 2 (some .boolean)] ++ wsX30 ++ wsX00)
def wsX3_guessFor : List Cond := .code yX3_guessFor cX3_guessFor 2 (some .boolean) :: ([.fieldLink RX3 21 "BranchNotes$State" "choosers" "[I", .methodLink RX3 83 yX3_deskSays, .instanceMethod yX3_deskSays, .selects RX3 yX3_deskSays yX3_deskSays, .initialized RX3, .code yX3_deskSays cX3_deskSays 4 (some .boolean), .fieldLink RX3 17 "BranchNotes$State" "desks" "[LBranchNotes$Desk;", .fieldLink RX3 80 "BranchNotes$Desk" "strengths" "[I", .fieldLink RX3 9 "BranchNotes$State" "settings" "[I", .methodLink RX3 76 yX0_noteFor, .instanceMethod yX0_noteFor, .selects RX0 yX0_noteFor yX0_noteFor, .initialized RX0, .code yX0_noteFor cX0_noteFor 5 (some .int), .fieldLink RX0 9 "BranchNotes$Desk" "settings" "[I", .methodLink RX0 50 yX0_pathFor, .instanceMethod yX0_pathFor, .selects RX0 yX0_pathFor yX0_pathFor, .code yX0_pathFor cX0_pathFor 2 (some .int), .fieldLink RX0 27 "BranchNotes$Desk" "paths" "[I"] ++ wsX30 ++ wsX00)
def wsX2_isGuess_r1 : List Cond := [Cond.static yX5_isPlace, Cond.initialized RX5, Cond.code yX5_isPlace cX5_isPlace 1 (some .boolean), Cond.methodLink RX2 84 yX3_guessFor, Cond.instanceMethod yX3_guessFor, Cond.selects RX3 yX3_guessFor yX3_guessFor, Cond.initialized RX3, Cond.code yX3_guessFor cX3_guessFor 2 (some .boolean), Cond.fieldLink RX3 21 "BranchNotes$State" "choosers" "[I", Cond.methodLink RX3 83 yX3_deskSays, Cond.instanceMethod yX3_deskSays, Cond.selects RX3 yX3_deskSays yX3_deskSays, Cond.code yX3_deskSays cX3_deskSays 4 (some .boolean), Cond.fieldLink RX3 17 "BranchNotes$State" "desks" "[LBranchNotes$Desk;", Cond.fieldLink RX3 80 "BranchNotes$Desk" "strengths" "[I", Cond.fieldLink RX3 9 "BranchNotes$State" "settings" "[I", Cond.methodLink RX3 76 yX0_noteFor, Cond.instanceMethod yX0_noteFor, Cond.selects RX0 yX0_noteFor yX0_noteFor, Cond.initialized RX0, Cond.code yX0_noteFor cX0_noteFor 5 (some .int), Cond.fieldLink RX0 9 "BranchNotes$Desk" "settings" "[I", Cond.methodLink RX0 50 yX0_pathFor, Cond.instanceMethod yX0_pathFor]
def wsX2_isGuess_r2 : List Cond := [Cond.selects RX0 yX0_pathFor yX0_pathFor, Cond.code yX0_pathFor cX0_pathFor 2 (some .int), Cond.fieldLink RX0 27 "BranchNotes$Desk" "paths" "[I"]
def wsX2_isGuess : List Cond := .code yX2_isGuess cX2_isGuess 3 (some .boolean) :: ((wsX2_isGuess_r1 ++ wsX2_isGuess_r2) ++ wsX30 ++ wsX00)
def wsX2_succeeds_r1 : List Cond := [Cond.fieldLink RX2 30 "BranchNotes$State" "right" "I", Cond.fieldLink RX2 45 "BranchNotes$State" "desks" "[LBranchNotes$Desk;", Cond.fieldLink RX2 49 "BranchNotes$Desk" "strengths" "[I", Cond.fieldLink RX2 55 "BranchNotes$State" "points" "I", Cond.methodLink RX2 7 yX2_goOften, Cond.static yX2_goOften, Cond.initialized RX2, Cond.code yX2_goOften cX2_goOften 5 (some .boolean), Cond.static yX5_isPlace, Cond.initialized RX5, Cond.code yX5_isPlace cX5_isPlace 1 (some .boolean), Cond.methodLink RX2 61 yX3_go, Cond.instanceMethod yX3_go, Cond.selects RX3 yX3_go yX3_go, Cond.initialized RX3, Cond.code yX3_go cX3_go 7 (some .boolean), Cond.fieldLink RX3 21 "BranchNotes$State" "choosers" "[I", Cond.fieldLink RX3 17 "BranchNotes$State" "desks" "[LBranchNotes$Desk;", Cond.fieldLink RX3 9 "BranchNotes$State" "settings" "[I", Cond.methodLink RX3 83 yX3_deskSays, Cond.instanceMethod yX3_deskSays, Cond.selects RX3 yX3_deskSays yX3_deskSays, Cond.code yX3_deskSays cX3_deskSays 4 (some .boolean), Cond.fieldLink RX3 80 "BranchNotes$Desk" "strengths" "[I"]
def wsX2_succeeds_r2 : List Cond := [Cond.methodLink RX3 76 yX0_noteFor, Cond.instanceMethod yX0_noteFor, Cond.selects RX0 yX0_noteFor yX0_noteFor, Cond.initialized RX0, Cond.code yX0_noteFor cX0_noteFor 5 (some .int), Cond.fieldLink RX0 9 "BranchNotes$Desk" "settings" "[I", Cond.methodLink RX0 50 yX0_pathFor, Cond.instanceMethod yX0_pathFor, Cond.selects RX0 yX0_pathFor yX0_pathFor, Cond.code yX0_pathFor cX0_pathFor 2 (some .int), Cond.fieldLink RX0 27 "BranchNotes$Desk" "paths" "[I", Cond.methodLink RX3 87 yX3_countGuess, Cond.instanceMethod yX3_countGuess, Cond.selects RX3 yX3_countGuess yX3_countGuess, Cond.code yX3_countGuess cX3_countGuess 4 none, Cond.fieldLink RX3 48 "BranchNotes$State" "gone" "I", Cond.fieldLink RX3 24 "BranchNotes$State" "goneAt" "[I", Cond.fieldLink RX3 27 "BranchNotes$State" "takenAt" "[I", Cond.fieldLink RX3 52 "BranchNotes$State" "right" "I", Cond.fieldLink RX3 30 "BranchNotes$State" "rightAt" "[I", Cond.fieldLink RX3 55 "BranchNotes$State" "points" "I", Cond.fieldLink RX3 58 "BranchNotes$State" "series" "I", Cond.fieldLink RX3 61 "BranchNotes$State" "longestSeries" "I", Cond.methodLink RX3 115 Lib.Math.max.name]
def wsX2_succeeds_r3 : List Cond := [Cond.static Lib.Math.max.name, Cond.initialized "java/lang/Math", Cond.code Lib.Math.max.name Lib.Math.max.code 2 (some .int), Cond.methodLink RX3 91 yX3_moveChooser, Cond.instanceMethod yX3_moveChooser, Cond.selects RX3 yX3_moveChooser yX3_moveChooser, Cond.code yX3_moveChooser cX3_moveChooser 3 none, Cond.methodLink RX3 120 Lib.Math.min.name, Cond.static Lib.Math.min.name, Cond.code Lib.Math.min.name Lib.Math.min.code 2 (some .int), Cond.methodLink RX3 95 yX3_noteFor, Cond.instanceMethod yX3_noteFor, Cond.selects RX3 yX3_noteFor yX3_noteFor, Cond.code yX3_noteFor cX3_noteFor 3 (some .int), Cond.methodLink RX3 96 yX0_use, Cond.instanceMethod yX0_use, Cond.selects RX0 yX0_use yX0_use, Cond.code yX0_use cX0_use 5 none, Cond.fieldLink RX0 21 "BranchNotes$Desk" "uses" "[I", Cond.fieldLink RX0 18 "BranchNotes$Desk" "lastPlaces" "[I", Cond.fieldLink RX0 36 "BranchNotes$Desk" "clashes" "I", Cond.fieldLink RX0 15 "BranchNotes$Desk" "strengths" "[I", Cond.fieldLink RX0 24 "BranchNotes$Desk" "rights" "[I", Cond.fieldLink RX0 40 "BranchNotes$Desk" "right" "I"]
def wsX2_succeeds_r4 : List Cond := [Cond.methodLink RX0 54 Lib.Math.min.name, Cond.methodLink RX0 60 Lib.Math.max.name, Cond.methodLink RX3 100 yX0_changePath, Cond.instanceMethod yX0_changePath, Cond.selects RX0 yX0_changePath yX0_changePath, Cond.code yX0_changePath cX0_changePath 4 none, Cond.methodLink RX2 13 yX2_changeDesk, Cond.static yX2_changeDesk, Cond.code yX2_changeDesk cX2_changeDesk 4 (some .boolean), Cond.static yX5_isDesk, Cond.code yX5_isDesk cX5_isDesk 1 (some .boolean), Cond.static yX5_isDeskSetting, Cond.code yX5_isDeskSetting cX5_isDeskSetting 2 (some .boolean), Cond.fieldLink RX5 253 "BranchNotes" "DESK_MOST" "[I", Cond.methodLink RX2 69 yX3_changeDesk, Cond.instanceMethod yX3_changeDesk, Cond.selects RX3 yX3_changeDesk yX3_changeDesk, Cond.code yX3_changeDesk cX3_changeDesk 4 none, Cond.fieldLink RX3 34 "BranchNotes$Desk" "settings" "[I", Cond.methodLink RX3 35 yX3_beginAnew, Cond.instanceMethod yX3_beginAnew, Cond.selects RX3 yX3_beginAnew yX3_beginAnew, Cond.code yX3_beginAnew cX3_beginAnew 2 none, Cond.methodLink RX3 64 yX0_beginAnew]
def wsX2_succeeds_r5 : List Cond := [Cond.instanceMethod yX0_beginAnew, Cond.selects RX0 yX0_beginAnew yX0_beginAnew, Cond.code yX0_beginAnew cX0_beginAnew 2 none, Cond.constant RX0 49 (-99999), Cond.methodLink RX0 43 yJ7_fill_53178, Cond.static yJ7_fill_53178, Cond.initialized RJ7, Cond.code yJ7_fill_53178 cJ7_fill_53178 4 none, Cond.methodLink RX3 67 yJ7_fill_53178, Cond.methodLink RX2 16 yX2_changeBoth, Cond.static yX2_changeBoth, Cond.code yX2_changeBoth cX2_changeBoth 3 (some .boolean), Cond.static yX5_isCommonSetting, Cond.code yX5_isCommonSetting cX5_isCommonSetting 2 (some .boolean), Cond.fieldLink RX5 256 "BranchNotes" "COMMON_LEAST" "[I", Cond.fieldLink RX5 259 "BranchNotes" "COMMON_MOST" "[I", Cond.methodLink RX2 75 yX3_changeBoth, Cond.instanceMethod yX3_changeBoth, Cond.selects RX3 yX3_changeBoth yX3_changeBoth, Cond.code yX3_changeBoth cX3_changeBoth 3 none, Cond.methodLink RX2 20 yX2_forgetAll, Cond.static yX2_forgetAll, Cond.code yX2_forgetAll cX2_forgetAll 1 (some .boolean), Cond.methodLink RX2 78 yX3_beginAnew]
def wsX2_succeeds_r6 : List Cond := [Cond.methodLink RX2 24 yX2_makeStrength, Cond.static yX2_makeStrength, Cond.code yX2_makeStrength cX2_makeStrength 4 (some .boolean), Cond.methodLink RX2 42 yX3_isNote, Cond.instanceMethod yX3_isNote, Cond.selects RX3 yX3_isNote yX3_isNote, Cond.code yX3_isNote cX3_isNote 2 (some .boolean), Cond.methodLink RX2 81 yX3_isStrength, Cond.instanceMethod yX3_isStrength, Cond.selects RX3 yX3_isStrength yX3_isStrength, Cond.code yX3_isStrength cX3_isStrength 2 (some .boolean), Cond.methodLink RX2 27 yX2_isGuess, Cond.static yX2_isGuess, Cond.code yX2_isGuess cX2_isGuess 3 (some .boolean), Cond.methodLink RX2 84 yX3_guessFor, Cond.instanceMethod yX3_guessFor, Cond.selects RX3 yX3_guessFor yX3_guessFor, Cond.code yX3_guessFor cX3_guessFor 2 (some .boolean)]
def wsX2_succeeds : List Cond := .code yX2_succeeds cX2_succeeds 8 (some .boolean) :: ((wsX2_succeeds_r1 ++ (wsX2_succeeds_r2 ++ (wsX2_succeeds_r3 ++ (wsX2_succeeds_r4 ++ (wsX2_succeeds_r5 ++ wsX2_succeeds_r6))))) ++ wsX30 ++ wsX00)
def wsX3_allClashes : List Cond := .code yX3_allClashes cX3_allClashes 1 (some .int) :: ([.fieldLink RX3 17 "BranchNotes$State" "desks" "[LBranchNotes$Desk;", .fieldLink RX3 73 "BranchNotes$Desk" "clashes" "I"] ++ wsX30 ++ wsX00)
def wsX3_goAll_r1 : List Cond := [Cond.fieldLink RX3 103 "BranchNotes$Text" "stepCount" "I", Cond.fieldLink RX3 108 "BranchNotes$Text" "steps" "[I", Cond.methodLink RX3 111 yX3_go, Cond.instanceMethod yX3_go, Cond.selects RX3 yX3_go yX3_go, Cond.initialized RX3, Cond.code yX3_go cX3_go 7 (some .boolean), Cond.fieldLink RX3 21 "BranchNotes$State" "choosers" "[I", Cond.fieldLink RX3 17 "BranchNotes$State" "desks" "[LBranchNotes$Desk;", Cond.fieldLink RX3 9 "BranchNotes$State" "settings" "[I", Cond.methodLink RX3 83 yX3_deskSays, Cond.instanceMethod yX3_deskSays, Cond.selects RX3 yX3_deskSays yX3_deskSays, Cond.code yX3_deskSays cX3_deskSays 4 (some .boolean), Cond.fieldLink RX3 80 "BranchNotes$Desk" "strengths" "[I", Cond.methodLink RX3 76 yX0_noteFor, Cond.instanceMethod yX0_noteFor, Cond.selects RX0 yX0_noteFor yX0_noteFor, Cond.initialized RX0, Cond.code yX0_noteFor cX0_noteFor 5 (some .int), Cond.fieldLink RX0 9 "BranchNotes$Desk" "settings" "[I", Cond.methodLink RX0 50 yX0_pathFor, Cond.instanceMethod yX0_pathFor, Cond.selects RX0 yX0_pathFor yX0_pathFor]
def wsX3_goAll_r2 : List Cond := [Cond.code yX0_pathFor cX0_pathFor 2 (some .int), Cond.fieldLink RX0 27 "BranchNotes$Desk" "paths" "[I", Cond.methodLink RX3 87 yX3_countGuess, Cond.instanceMethod yX3_countGuess, Cond.selects RX3 yX3_countGuess yX3_countGuess, Cond.code yX3_countGuess cX3_countGuess 4 none, Cond.fieldLink RX3 48 "BranchNotes$State" "gone" "I", Cond.fieldLink RX3 24 "BranchNotes$State" "goneAt" "[I", Cond.fieldLink RX3 27 "BranchNotes$State" "takenAt" "[I", Cond.fieldLink RX3 52 "BranchNotes$State" "right" "I", Cond.fieldLink RX3 30 "BranchNotes$State" "rightAt" "[I", Cond.fieldLink RX3 55 "BranchNotes$State" "points" "I", Cond.fieldLink RX3 58 "BranchNotes$State" "series" "I", Cond.fieldLink RX3 61 "BranchNotes$State" "longestSeries" "I", Cond.methodLink RX3 115 Lib.Math.max.name, Cond.static Lib.Math.max.name, Cond.initialized "java/lang/Math", Cond.code Lib.Math.max.name Lib.Math.max.code 2 (some .int), Cond.methodLink RX3 91 yX3_moveChooser, Cond.instanceMethod yX3_moveChooser, Cond.selects RX3 yX3_moveChooser yX3_moveChooser, Cond.code yX3_moveChooser cX3_moveChooser 3 none, Cond.methodLink RX3 120 Lib.Math.min.name, Cond.static Lib.Math.min.name]
def wsX3_goAll_r3 : List Cond := [Cond.code Lib.Math.min.name Lib.Math.min.code 2 (some .int), Cond.methodLink RX3 95 yX3_noteFor, Cond.instanceMethod yX3_noteFor, Cond.selects RX3 yX3_noteFor yX3_noteFor, Cond.code yX3_noteFor cX3_noteFor 3 (some .int), Cond.methodLink RX3 96 yX0_use, Cond.instanceMethod yX0_use, Cond.selects RX0 yX0_use yX0_use, Cond.code yX0_use cX0_use 5 none, Cond.fieldLink RX0 21 "BranchNotes$Desk" "uses" "[I", Cond.fieldLink RX0 18 "BranchNotes$Desk" "lastPlaces" "[I", Cond.fieldLink RX0 36 "BranchNotes$Desk" "clashes" "I", Cond.fieldLink RX0 15 "BranchNotes$Desk" "strengths" "[I", Cond.fieldLink RX0 24 "BranchNotes$Desk" "rights" "[I", Cond.fieldLink RX0 40 "BranchNotes$Desk" "right" "I", Cond.methodLink RX0 54 Lib.Math.min.name, Cond.methodLink RX0 60 Lib.Math.max.name, Cond.methodLink RX3 100 yX0_changePath, Cond.instanceMethod yX0_changePath, Cond.selects RX0 yX0_changePath yX0_changePath, Cond.code yX0_changePath cX0_changePath 4 none]
def wsX3_goAll : List Cond := .code yX3_goAll cX3_goAll 4 none :: ((wsX3_goAll_r1 ++ (wsX3_goAll_r2 ++ wsX3_goAll_r3)) ++ wsX40 ++ wsX30 ++ wsX00)
def wsX4_init : List Cond := .code yX4_init cX4_init 1 none :: ([.methodLink RX4 3 objectInit, .instanceMethod objectInit, .code objectInit ⟨#[0xb1]⟩ 1 none, .arrayClass .int, .fieldLink RX4 11 "BranchNotes$Text" "codes" "[I", .fieldLink RX4 15 "BranchNotes$Text" "steps" "[I", .fieldLink RX4 18 "BranchNotes$Text" "starts" "[I"] ++ wsX40)
def wsX4_add : List Cond := .code yX4_add cX4_add 2 (some .boolean) :: ([.fieldLink RX4 21 "BranchNotes$Text" "length" "I", .fieldLink RX4 11 "BranchNotes$Text" "codes" "[I"] ++ wsX40)
def wsX4_readSign : List Cond := .code yX4_readSign cX4_readSign 2 (some .boolean) :: ([.fieldLink RX4 30 "BranchNotes$Text" "stepCount" "I", .fieldLink RX4 15 "BranchNotes$Text" "steps" "[I", .fieldLink RX4 52 "BranchNotes$Text" "letter" "I", .fieldLink RX4 36 "BranchNotes$Text" "expected" "I"] ++ wsX40)
def wsX4_repeatFrom : List Cond := .code yX4_repeatFrom cX4_repeatFrom 6 none :: ([.fieldLink RX4 30 "BranchNotes$Text" "stepCount" "I", .fieldLink RX4 15 "BranchNotes$Text" "steps" "[I"] ++ wsX40)
def wsX4_readDigit : List Cond := .code yX4_readDigit cX4_readDigit 2 (some .boolean) :: ([.fieldLink RX4 33 "BranchNotes$Text" "open" "I", .fieldLink RX4 18 "BranchNotes$Text" "starts" "[I", .fieldLink RX4 36 "BranchNotes$Text" "expected" "I", .methodLink RX4 55 yX4_repeatFrom, .instanceMethod yX4_repeatFrom, .selects RX4 yX4_repeatFrom yX4_repeatFrom, .initialized RX4, .code yX4_repeatFrom cX4_repeatFrom 6 none, .fieldLink RX4 30 "BranchNotes$Text" "stepCount" "I", .fieldLink RX4 15 "BranchNotes$Text" "steps" "[I"] ++ wsX40)
def wsX4_readItem : List Cond := .code yX4_readItem cX4_readItem 2 (some .boolean) :: ([.fieldLink RX4 52 "BranchNotes$Text" "letter" "I", .fieldLink RX4 36 "BranchNotes$Text" "expected" "I", .fieldLink RX4 33 "BranchNotes$Text" "open" "I", .fieldLink RX4 18 "BranchNotes$Text" "starts" "[I", .fieldLink RX4 30 "BranchNotes$Text" "stepCount" "I"] ++ wsX40)
def wsX4_readCharacter : List Cond := .code yX4_readCharacter cX4_readCharacter 2 (some .boolean) :: ([.fieldLink RX4 36 "BranchNotes$Text" "expected" "I", .methodLink RX4 43 yX4_readSign, .instanceMethod yX4_readSign, .selects RX4 yX4_readSign yX4_readSign, .initialized RX4, .code yX4_readSign cX4_readSign 2 (some .boolean), .fieldLink RX4 30 "BranchNotes$Text" "stepCount" "I", .fieldLink RX4 15 "BranchNotes$Text" "steps" "[I", .fieldLink RX4 52 "BranchNotes$Text" "letter" "I", .methodLink RX4 46 yX4_readDigit, .instanceMethod yX4_readDigit, .selects RX4 yX4_readDigit yX4_readDigit, .code yX4_readDigit cX4_readDigit 2 (some .boolean), .fieldLink RX4 33 "BranchNotes$Text" "open" "I", .fieldLink RX4 18 "BranchNotes$Text" "starts" "[I", .methodLink RX4 55 yX4_repeatFrom, .instanceMethod yX4_repeatFrom, .selects RX4 yX4_repeatFrom yX4_repeatFrom, .code yX4_repeatFrom cX4_repeatFrom 6 none, .methodLink RX4 49 yX4_readItem, .instanceMethod yX4_readItem, .selects RX4 yX4_readItem yX4_readItem, .code yX4_readItem cX4_readItem 2 (some .boolean)] ++ wsX40)
def wsX4_read_r1 : List Cond := [Cond.fieldLink RX4 30 "BranchNotes$Text" "stepCount" "I", Cond.fieldLink RX4 33 "BranchNotes$Text" "open" "I", Cond.fieldLink RX4 36 "BranchNotes$Text" "expected" "I", Cond.fieldLink RX4 21 "BranchNotes$Text" "length" "I", Cond.fieldLink RX4 11 "BranchNotes$Text" "codes" "[I", Cond.constant RX4 29 (-99999), Cond.methodLink RX4 39 yX4_readCharacter, Cond.instanceMethod yX4_readCharacter, Cond.selects RX4 yX4_readCharacter yX4_readCharacter, Cond.initialized RX4, Cond.code yX4_readCharacter cX4_readCharacter 2 (some .boolean), Cond.methodLink RX4 43 yX4_readSign, Cond.instanceMethod yX4_readSign, Cond.selects RX4 yX4_readSign yX4_readSign, Cond.code yX4_readSign cX4_readSign 2 (some .boolean), Cond.fieldLink RX4 15 "BranchNotes$Text" "steps" "[I", Cond.fieldLink RX4 52 "BranchNotes$Text" "letter" "I", Cond.methodLink RX4 46 yX4_readDigit, Cond.instanceMethod yX4_readDigit, Cond.selects RX4 yX4_readDigit yX4_readDigit, Cond.code yX4_readDigit cX4_readDigit 2 (some .boolean), Cond.fieldLink RX4 18 "BranchNotes$Text" "starts" "[I", Cond.methodLink RX4 55 yX4_repeatFrom, Cond.instanceMethod yX4_repeatFrom]
def wsX4_read_r2 : List Cond := [Cond.selects RX4 yX4_repeatFrom yX4_repeatFrom, Cond.code yX4_repeatFrom cX4_repeatFrom 6 none, Cond.methodLink RX4 49 yX4_readItem, Cond.instanceMethod yX4_readItem, Cond.selects RX4 yX4_readItem yX4_readItem, Cond.code yX4_readItem cX4_readItem 2 (some .boolean)]
def wsX4_read : List Cond := .code yX4_read cX4_read 2 (some .int) :: ((wsX4_read_r1 ++ wsX4_read_r2) ++ wsX40)
def wsX4_isPlayable_r1 : List Cond := [Cond.constant RX4 29 (-99999), Cond.fieldLink RX4 30 "BranchNotes$Text" "stepCount" "I", Cond.methodLink RX4 25 yX4_read, Cond.instanceMethod yX4_read, Cond.selects RX4 yX4_read yX4_read, Cond.initialized RX4, Cond.code yX4_read cX4_read 2 (some .int), Cond.fieldLink RX4 33 "BranchNotes$Text" "open" "I", Cond.fieldLink RX4 36 "BranchNotes$Text" "expected" "I", Cond.fieldLink RX4 21 "BranchNotes$Text" "length" "I", Cond.fieldLink RX4 11 "BranchNotes$Text" "codes" "[I", Cond.methodLink RX4 39 yX4_readCharacter, Cond.instanceMethod yX4_readCharacter, Cond.selects RX4 yX4_readCharacter yX4_readCharacter, Cond.code yX4_readCharacter cX4_readCharacter 2 (some .boolean), Cond.methodLink RX4 43 yX4_readSign, Cond.instanceMethod yX4_readSign, Cond.selects RX4 yX4_readSign yX4_readSign, Cond.code yX4_readSign cX4_readSign 2 (some .boolean), Cond.fieldLink RX4 15 "BranchNotes$Text" "steps" "[I", Cond.fieldLink RX4 52 "BranchNotes$Text" "letter" "I", Cond.methodLink RX4 46 yX4_readDigit, Cond.instanceMethod yX4_readDigit, Cond.selects RX4 yX4_readDigit yX4_readDigit]
def wsX4_isPlayable_r2 : List Cond := [Cond.code yX4_readDigit cX4_readDigit 2 (some .boolean), Cond.fieldLink RX4 18 "BranchNotes$Text" "starts" "[I", Cond.methodLink RX4 55 yX4_repeatFrom, Cond.instanceMethod yX4_repeatFrom, Cond.selects RX4 yX4_repeatFrom yX4_repeatFrom, Cond.code yX4_repeatFrom cX4_repeatFrom 6 none, Cond.methodLink RX4 49 yX4_readItem, Cond.instanceMethod yX4_readItem, Cond.selects RX4 yX4_readItem yX4_readItem, Cond.code yX4_readItem cX4_readItem 2 (some .boolean)]
def wsX4_isPlayable : List Cond := .code yX4_isPlayable cX4_isPlayable 1 (some .boolean) :: ((wsX4_isPlayable_r1 ++ wsX4_isPlayable_r2) ++ wsX40)
def wsX5_init_r1 : List Cond := [Cond.methodLink RX5 1 objectInit, Cond.instanceMethod objectInit, Cond.code objectInit ⟨#[0xb1]⟩ 1 none, Cond.classLink RX5 7 RX4, Cond.instantiable RX4 8, Cond.initialized RX4, Cond.fieldLink RX5 10 "BranchNotes" "text" "LBranchNotes$Text;", Cond.classLink RX5 16 RX3, Cond.instantiable RX3 11, Cond.initialized RX3, Cond.fieldLink RX5 19 "BranchNotes" "state" "LBranchNotes$State;", Cond.fieldLink RX5 23 "BranchNotes" "trial" "LBranchNotes$State;", Cond.classLink RX5 26 RX1, Cond.instantiable RX1 3, Cond.initialized RX1, Cond.fieldLink RX5 29 "BranchNotes" "history" "LBranchNotes$History;", Cond.fieldLink RX5 33 "BranchNotes" "slots" "[LBranchNotes$State;", Cond.arrayClass .boolean, Cond.fieldLink RX5 37 "BranchNotes" "saved" "[Z", Cond.instanceMethod yX4_init, Cond.code yX4_init cX4_init 1 none, Cond.methodLink RX4 3 objectInit, Cond.arrayClass .int, Cond.fieldLink RX4 11 "BranchNotes$Text" "codes" "[I"]
def wsX5_init_r2 : List Cond := [Cond.fieldLink RX4 15 "BranchNotes$Text" "steps" "[I", Cond.fieldLink RX4 18 "BranchNotes$Text" "starts" "[I", Cond.methodLink RX5 18 yX3_init, Cond.instanceMethod yX3_init, Cond.code yX3_init cX3_init 2 none, Cond.methodLink RX3 3 objectInit, Cond.fieldLink RX3 9 "BranchNotes$State" "settings" "[I", Cond.classLink RX3 15 RX0, Cond.fieldLink RX3 17 "BranchNotes$State" "desks" "[LBranchNotes$Desk;", Cond.fieldLink RX3 21 "BranchNotes$State" "choosers" "[I", Cond.fieldLink RX3 24 "BranchNotes$State" "goneAt" "[I", Cond.fieldLink RX3 27 "BranchNotes$State" "takenAt" "[I", Cond.fieldLink RX3 30 "BranchNotes$State" "rightAt" "[I", Cond.instantiable RX0 8, Cond.initialized RX0, Cond.fieldLink RX3 34 "BranchNotes$Desk" "settings" "[I", Cond.instanceMethod yX0_init, Cond.code yX0_init cX0_init 1 none, Cond.methodLink RX0 3 objectInit, Cond.fieldLink RX0 9 "BranchNotes$Desk" "settings" "[I", Cond.fieldLink RX0 15 "BranchNotes$Desk" "strengths" "[I", Cond.fieldLink RX0 18 "BranchNotes$Desk" "lastPlaces" "[I", Cond.fieldLink RX0 21 "BranchNotes$Desk" "uses" "[I", Cond.fieldLink RX0 24 "BranchNotes$Desk" "rights" "[I"]
def wsX5_init_r3 : List Cond := [Cond.fieldLink RX0 27 "BranchNotes$Desk" "paths" "[I", Cond.methodLink RX3 35 yX3_beginAnew, Cond.instanceMethod yX3_beginAnew, Cond.selects RX3 yX3_beginAnew yX3_beginAnew, Cond.code yX3_beginAnew cX3_beginAnew 2 none, Cond.fieldLink RX3 48 "BranchNotes$State" "gone" "I", Cond.fieldLink RX3 52 "BranchNotes$State" "right" "I", Cond.fieldLink RX3 55 "BranchNotes$State" "points" "I", Cond.fieldLink RX3 58 "BranchNotes$State" "series" "I", Cond.fieldLink RX3 61 "BranchNotes$State" "longestSeries" "I", Cond.methodLink RX3 64 yX0_beginAnew, Cond.instanceMethod yX0_beginAnew, Cond.selects RX0 yX0_beginAnew yX0_beginAnew, Cond.code yX0_beginAnew cX0_beginAnew 2 none, Cond.constant RX0 49 (-99999), Cond.fieldLink RX0 36 "BranchNotes$Desk" "clashes" "I", Cond.fieldLink RX0 40 "BranchNotes$Desk" "right" "I", Cond.methodLink RX0 43 yJ7_fill_53178, Cond.static yJ7_fill_53178, Cond.initialized RJ7, Cond.code yJ7_fill_53178 cJ7_fill_53178 4 none, Cond.methodLink RX3 67 yJ7_fill_53178, Cond.methodLink RX5 28 yX1_init, Cond.instanceMethod yX1_init]
def wsX5_init_r4 : List Cond := [Cond.code yX1_init cX1_init 2 none, Cond.methodLink RX1 1 objectInit, Cond.classLink RX1 9 RX3, Cond.fieldLink RX1 11 "BranchNotes$History" "ring" "[LBranchNotes$State;", Cond.methodLink RX1 15 yX3_init]
def wsX5_init : List Cond := .code yX5_init cX5_init 2 none :: ((wsX5_init_r1 ++ (wsX5_init_r2 ++ (wsX5_init_r3 ++ wsX5_init_r4))) ++ wsX40 ++ wsX50 ++ wsX30 ++ wsX10 ++ wsX00)
def wsX5_append : List Cond := .code yX5_append cX5_append 2 (some .int) :: ([.classLink RX5 41 "java/lang/IllegalArgumentException", .initialized "java/lang/IllegalArgumentException", .classLink RX5 52 "java/lang/IllegalStateException", .initialized "java/lang/IllegalStateException", .fieldLink RX5 10 "BranchNotes" "text" "LBranchNotes$Text;", .fieldLink RX5 57 "BranchNotes$Text" "length" "I", .methodLink RX5 48 yX4_add, .instanceMethod yX4_add, .selects RX4 yX4_add yX4_add, .initialized RX4, .code yX4_add cX4_add 2 (some .boolean), .fieldLink RX4 21 "BranchNotes$Text" "length" "I", .fieldLink RX4 11 "BranchNotes$Text" "codes" "[I"] ++ wsX50 ++ wsX40 ++ (vx_atS RX5 45 "java/lang/IllegalArgumentException" ["java/lang/RuntimeException", "java/lang/Exception"]).filter goodWord ++ (vx_atS RX5 56 "java/lang/IllegalStateException" ["java/lang/RuntimeException", "java/lang/Exception"]).filter goodWord)
def wsX5_clearText : List Cond := .code yX5_clearText cX5_clearText 2 (some .int) :: ([.fieldLink RX5 10 "BranchNotes" "text" "LBranchNotes$Text;", .fieldLink RX5 57 "BranchNotes$Text" "length" "I"] ++ wsX50 ++ wsX40)
def wsX5_errorPosition_r1 : List Cond := [Cond.fieldLink RX5 10 "BranchNotes" "text" "LBranchNotes$Text;", Cond.methodLink RX5 61 yX4_read, Cond.instanceMethod yX4_read, Cond.selects RX4 yX4_read yX4_read, Cond.initialized RX4, Cond.code yX4_read cX4_read 2 (some .int), Cond.fieldLink RX4 30 "BranchNotes$Text" "stepCount" "I", Cond.fieldLink RX4 33 "BranchNotes$Text" "open" "I", Cond.fieldLink RX4 36 "BranchNotes$Text" "expected" "I", Cond.fieldLink RX4 21 "BranchNotes$Text" "length" "I", Cond.fieldLink RX4 11 "BranchNotes$Text" "codes" "[I", Cond.constant RX4 29 (-99999), Cond.methodLink RX4 39 yX4_readCharacter, Cond.instanceMethod yX4_readCharacter, Cond.selects RX4 yX4_readCharacter yX4_readCharacter, Cond.code yX4_readCharacter cX4_readCharacter 2 (some .boolean), Cond.methodLink RX4 43 yX4_readSign, Cond.instanceMethod yX4_readSign, Cond.selects RX4 yX4_readSign yX4_readSign, Cond.code yX4_readSign cX4_readSign 2 (some .boolean), Cond.fieldLink RX4 15 "BranchNotes$Text" "steps" "[I", Cond.fieldLink RX4 52 "BranchNotes$Text" "letter" "I", Cond.methodLink RX4 46 yX4_readDigit, Cond.instanceMethod yX4_readDigit]
def wsX5_errorPosition_r2 : List Cond := [Cond.selects RX4 yX4_readDigit yX4_readDigit, Cond.code yX4_readDigit cX4_readDigit 2 (some .boolean), Cond.fieldLink RX4 18 "BranchNotes$Text" "starts" "[I", Cond.methodLink RX4 55 yX4_repeatFrom, Cond.instanceMethod yX4_repeatFrom, Cond.selects RX4 yX4_repeatFrom yX4_repeatFrom, Cond.code yX4_repeatFrom cX4_repeatFrom 6 none, Cond.methodLink RX4 49 yX4_readItem, Cond.instanceMethod yX4_readItem, Cond.selects RX4 yX4_readItem yX4_readItem, Cond.code yX4_readItem cX4_readItem 2 (some .boolean)]
def wsX5_errorPosition : List Cond := .code yX5_errorPosition cX5_errorPosition 1 (some .int) :: ((wsX5_errorPosition_r1 ++ wsX5_errorPosition_r2) ++ wsX50 ++ wsX40)
def wsX5_branches_r1 : List Cond := [Cond.fieldLink RX5 10 "BranchNotes" "text" "LBranchNotes$Text;", Cond.constant RX5 65 (-99999), Cond.fieldLink RX5 66 "BranchNotes$Text" "stepCount" "I", Cond.methodLink RX5 61 yX4_read, Cond.instanceMethod yX4_read, Cond.selects RX4 yX4_read yX4_read, Cond.initialized RX4, Cond.code yX4_read cX4_read 2 (some .int), Cond.fieldLink RX4 30 "BranchNotes$Text" "stepCount" "I", Cond.fieldLink RX4 33 "BranchNotes$Text" "open" "I", Cond.fieldLink RX4 36 "BranchNotes$Text" "expected" "I", Cond.fieldLink RX4 21 "BranchNotes$Text" "length" "I", Cond.fieldLink RX4 11 "BranchNotes$Text" "codes" "[I", Cond.constant RX4 29 (-99999), Cond.methodLink RX4 39 yX4_readCharacter, Cond.instanceMethod yX4_readCharacter, Cond.selects RX4 yX4_readCharacter yX4_readCharacter, Cond.code yX4_readCharacter cX4_readCharacter 2 (some .boolean), Cond.methodLink RX4 43 yX4_readSign, Cond.instanceMethod yX4_readSign, Cond.selects RX4 yX4_readSign yX4_readSign, Cond.code yX4_readSign cX4_readSign 2 (some .boolean), Cond.fieldLink RX4 15 "BranchNotes$Text" "steps" "[I", Cond.fieldLink RX4 52 "BranchNotes$Text" "letter" "I"]
def wsX5_branches_r2 : List Cond := [Cond.methodLink RX4 46 yX4_readDigit, Cond.instanceMethod yX4_readDigit, Cond.selects RX4 yX4_readDigit yX4_readDigit, Cond.code yX4_readDigit cX4_readDigit 2 (some .boolean), Cond.fieldLink RX4 18 "BranchNotes$Text" "starts" "[I", Cond.methodLink RX4 55 yX4_repeatFrom, Cond.instanceMethod yX4_repeatFrom, Cond.selects RX4 yX4_repeatFrom yX4_repeatFrom, Cond.code yX4_repeatFrom cX4_repeatFrom 6 none, Cond.methodLink RX4 49 yX4_readItem, Cond.instanceMethod yX4_readItem, Cond.selects RX4 yX4_readItem yX4_readItem, Cond.code yX4_readItem cX4_readItem 2 (some .boolean)]
def wsX5_branches : List Cond := .code yX5_branches cX5_branches 1 (some .int) :: ((wsX5_branches_r1 ++ wsX5_branches_r2) ++ wsX50 ++ wsX40)
def wsX5_about : List Cond := .code yX5_about cX5_about 2 (some .int) :: ([.classLink RX5 41 "java/lang/IllegalArgumentException", .initialized "java/lang/IllegalArgumentException", .fieldLink RX5 19 "BranchNotes" "state" "LBranchNotes$State;", .fieldLink RX5 69 "BranchNotes$State" "gone" "I", .fieldLink RX5 72 "BranchNotes$State" "right" "I", .fieldLink RX5 75 "BranchNotes$State" "points" "I", .fieldLink RX5 78 "BranchNotes$State" "desks" "[LBranchNotes$Desk;", .fieldLink RX5 82 "BranchNotes$Desk" "clashes" "I", .fieldLink RX5 87 "BranchNotes$State" "series" "I", .fieldLink RX5 90 "BranchNotes$State" "longestSeries" "I", .fieldLink RX5 93 "BranchNotes$State" "settings" "[I"] ++ wsX50 ++ wsX30 ++ wsX00 ++ (vx_atS RX5 45 "java/lang/IllegalArgumentException" ["java/lang/RuntimeException", "java/lang/Exception"]).filter goodWord)
def wsX5_checkDesk : List Cond := .code yX5_checkDesk cX5_checkDesk 1 none :: ([.classLink RX5 265 "java/lang/IndexOutOfBoundsException", .initialized "java/lang/IndexOutOfBoundsException", .methodLink RX5 262 yX5_isDesk, .static yX5_isDesk, .initialized RX5, .code yX5_isDesk cX5_isDesk 1 (some .boolean)] ++ (vx_atS RX5 269 "java/lang/IndexOutOfBoundsException" ["java/lang/RuntimeException", "java/lang/Exception"]).filter goodWord)
def wsX5_desk : List Cond := .code yX5_desk cX5_desk 4 (some .int) :: ([.classLink RX5 41 "java/lang/IllegalArgumentException", .initialized "java/lang/IllegalArgumentException", .fieldLink RX5 19 "BranchNotes" "state" "LBranchNotes$State;", .fieldLink RX5 78 "BranchNotes$State" "desks" "[LBranchNotes$Desk;", .fieldLink RX5 103 "BranchNotes$Desk" "settings" "[I", .fieldLink RX5 104 "BranchNotes$Desk" "right" "I", .methodLink RX5 99 yX5_checkDesk, .static yX5_checkDesk, .initialized RX5, .code yX5_checkDesk cX5_checkDesk 1 none, .classLink RX5 265 "java/lang/IndexOutOfBoundsException", .initialized "java/lang/IndexOutOfBoundsException", .methodLink RX5 262 yX5_isDesk, .static yX5_isDesk, .code yX5_isDesk cX5_isDesk 1 (some .boolean), .methodLink RX5 105 yX0_countUsed, .instanceMethod yX0_countUsed, .selects RX0 yX0_countUsed yX0_countUsed, .initialized RX0, .code yX0_countUsed cX0_countUsed 3 (some .int), .fieldLink RX0 21 "BranchNotes$Desk" "uses" "[I"] ++ wsX50 ++ wsX30 ++ wsX00 ++ (vx_atS RX5 45 "java/lang/IllegalArgumentException" ["java/lang/RuntimeException", "java/lang/Exception"]).filter goodWord ++ (vx_atS RX5 269 "java/lang/IndexOutOfBoundsException" ["java/lang/RuntimeException", "java/lang/Exception"]).filter goodWord)
def wsX5_checkNote : List Cond := .code yX5_checkNote cX5_checkNote 2 none :: ([.classLink RX5 265 "java/lang/IndexOutOfBoundsException", .initialized "java/lang/IndexOutOfBoundsException", .fieldLink RX5 19 "BranchNotes" "state" "LBranchNotes$State;", .methodLink RX5 277 yX3_isNote, .instanceMethod yX3_isNote, .selects RX3 yX3_isNote yX3_isNote, .initialized RX3, .code yX3_isNote cX3_isNote 2 (some .boolean), .fieldLink RX3 9 "BranchNotes$State" "settings" "[I"] ++ wsX50 ++ wsX30 ++ (vx_atS RX5 269 "java/lang/IndexOutOfBoundsException" ["java/lang/RuntimeException", "java/lang/Exception"]).filter goodWord)
def wsX5_note_r1 : List Cond := [Cond.classLink RX5 41 "java/lang/IllegalArgumentException", Cond.initialized "java/lang/IllegalArgumentException", Cond.fieldLink RX5 19 "BranchNotes" "state" "LBranchNotes$State;", Cond.fieldLink RX5 78 "BranchNotes$State" "desks" "[LBranchNotes$Desk;", Cond.fieldLink RX5 113 "BranchNotes$Desk" "strengths" "[I", Cond.fieldLink RX5 116 "BranchNotes$Desk" "lastPlaces" "[I", Cond.fieldLink RX5 119 "BranchNotes$Desk" "uses" "[I", Cond.fieldLink RX5 122 "BranchNotes$Desk" "rights" "[I", Cond.methodLink RX5 99 yX5_checkDesk, Cond.static yX5_checkDesk, Cond.initialized RX5, Cond.code yX5_checkDesk cX5_checkDesk 1 none, Cond.classLink RX5 265 "java/lang/IndexOutOfBoundsException", Cond.initialized "java/lang/IndexOutOfBoundsException", Cond.methodLink RX5 262 yX5_isDesk, Cond.static yX5_isDesk, Cond.code yX5_isDesk cX5_isDesk 1 (some .boolean), Cond.methodLink RX5 110 yX5_checkNote, Cond.instanceMethod yX5_checkNote, Cond.selects RX5 yX5_checkNote yX5_checkNote, Cond.code yX5_checkNote cX5_checkNote 2 none, Cond.methodLink RX5 277 yX3_isNote, Cond.instanceMethod yX3_isNote, Cond.selects RX3 yX3_isNote yX3_isNote]
def wsX5_note_r2 : List Cond := [Cond.initialized RX3, Cond.code yX3_isNote cX3_isNote 2 (some .boolean), Cond.fieldLink RX3 9 "BranchNotes$State" "settings" "[I"]
def wsX5_note : List Cond := .code yX5_note cX5_note 5 (some .int) :: ((wsX5_note_r1 ++ wsX5_note_r2) ++ wsX50 ++ wsX30 ++ wsX00 ++ (vx_atS RX5 45 "java/lang/IllegalArgumentException" ["java/lang/RuntimeException", "java/lang/Exception"]).filter goodWord ++ (vx_atS RX5 269 "java/lang/IndexOutOfBoundsException" ["java/lang/RuntimeException", "java/lang/Exception"]).filter goodWord)
def wsX5_checkPlace : List Cond := .code yX5_checkPlace cX5_checkPlace 1 none :: ([.classLink RX5 265 "java/lang/IndexOutOfBoundsException", .initialized "java/lang/IndexOutOfBoundsException", .methodLink RX5 270 yX5_isPlace, .static yX5_isPlace, .initialized RX5, .code yX5_isPlace cX5_isPlace 1 (some .boolean)] ++ (vx_atS RX5 269 "java/lang/IndexOutOfBoundsException" ["java/lang/RuntimeException", "java/lang/Exception"]).filter goodWord)
def wsX5_place_r1 : List Cond := [Cond.classLink RX5 41 "java/lang/IllegalArgumentException", Cond.initialized "java/lang/IllegalArgumentException", Cond.fieldLink RX5 19 "BranchNotes" "state" "LBranchNotes$State;", Cond.fieldLink RX5 130 "BranchNotes$State" "goneAt" "[I", Cond.fieldLink RX5 133 "BranchNotes$State" "takenAt" "[I", Cond.fieldLink RX5 136 "BranchNotes$State" "rightAt" "[I", Cond.fieldLink RX5 139 "BranchNotes$State" "choosers" "[I", Cond.methodLink RX5 127 yX5_checkPlace, Cond.static yX5_checkPlace, Cond.initialized RX5, Cond.code yX5_checkPlace cX5_checkPlace 1 none, Cond.classLink RX5 265 "java/lang/IndexOutOfBoundsException", Cond.initialized "java/lang/IndexOutOfBoundsException", Cond.methodLink RX5 270 yX5_isPlace, Cond.static yX5_isPlace, Cond.code yX5_isPlace cX5_isPlace 1 (some .boolean), Cond.methodLink RX5 142 yX3_guessFor, Cond.instanceMethod yX3_guessFor, Cond.selects RX3 yX3_guessFor yX3_guessFor, Cond.initialized RX3, Cond.code yX3_guessFor cX3_guessFor 2 (some .boolean), Cond.fieldLink RX3 21 "BranchNotes$State" "choosers" "[I", Cond.methodLink RX3 83 yX3_deskSays, Cond.instanceMethod yX3_deskSays]
def wsX5_place_r2 : List Cond := [Cond.selects RX3 yX3_deskSays yX3_deskSays, Cond.code yX3_deskSays cX3_deskSays 4 (some .boolean), Cond.fieldLink RX3 17 "BranchNotes$State" "desks" "[LBranchNotes$Desk;", Cond.fieldLink RX3 80 "BranchNotes$Desk" "strengths" "[I", Cond.fieldLink RX3 9 "BranchNotes$State" "settings" "[I", Cond.methodLink RX3 76 yX0_noteFor, Cond.instanceMethod yX0_noteFor, Cond.selects RX0 yX0_noteFor yX0_noteFor, Cond.initialized RX0, Cond.code yX0_noteFor cX0_noteFor 5 (some .int), Cond.fieldLink RX0 9 "BranchNotes$Desk" "settings" "[I", Cond.methodLink RX0 50 yX0_pathFor, Cond.instanceMethod yX0_pathFor, Cond.selects RX0 yX0_pathFor yX0_pathFor, Cond.code yX0_pathFor cX0_pathFor 2 (some .int), Cond.fieldLink RX0 27 "BranchNotes$Desk" "paths" "[I"]
def wsX5_place : List Cond := .code yX5_place cX5_place 3 (some .int) :: ((wsX5_place_r1 ++ wsX5_place_r2) ++ wsX50 ++ wsX30 ++ wsX00 ++ (vx_atS RX5 45 "java/lang/IllegalArgumentException" ["java/lang/RuntimeException", "java/lang/Exception"]).filter goodWord ++ (vx_atS RX5 269 "java/lang/IndexOutOfBoundsException" ["java/lang/RuntimeException", "java/lang/Exception"]).filter goodWord)
def wsX5_path : List Cond := .code yX5_path cX5_path 3 (some .int) :: ([.fieldLink RX5 19 "BranchNotes" "state" "LBranchNotes$State;", .fieldLink RX5 78 "BranchNotes$State" "desks" "[LBranchNotes$Desk;", .methodLink RX5 99 yX5_checkDesk, .static yX5_checkDesk, .initialized RX5, .code yX5_checkDesk cX5_checkDesk 1 none, .classLink RX5 265 "java/lang/IndexOutOfBoundsException", .initialized "java/lang/IndexOutOfBoundsException", .methodLink RX5 262 yX5_isDesk, .static yX5_isDesk, .code yX5_isDesk cX5_isDesk 1 (some .boolean), .methodLink RX5 127 yX5_checkPlace, .static yX5_checkPlace, .code yX5_checkPlace cX5_checkPlace 1 none, .methodLink RX5 270 yX5_isPlace, .static yX5_isPlace, .code yX5_isPlace cX5_isPlace 1 (some .boolean), .methodLink RX5 147 yX0_pathFor, .instanceMethod yX0_pathFor, .selects RX0 yX0_pathFor yX0_pathFor, .initialized RX0, .code yX0_pathFor cX0_pathFor 2 (some .int), .fieldLink RX0 27 "BranchNotes$Desk" "paths" "[I", .fieldLink RX0 9 "BranchNotes$Desk" "settings" "[I"] ++ wsX50 ++ wsX30 ++ wsX00 ++ (vx_atS RX5 269 "java/lang/IndexOutOfBoundsException" ["java/lang/RuntimeException", "java/lang/Exception"]).filter goodWord)
def wsX5_noteOf_r1 : List Cond := [Cond.fieldLink RX5 19 "BranchNotes" "state" "LBranchNotes$State;", Cond.methodLink RX5 99 yX5_checkDesk, Cond.static yX5_checkDesk, Cond.initialized RX5, Cond.code yX5_checkDesk cX5_checkDesk 1 none, Cond.classLink RX5 265 "java/lang/IndexOutOfBoundsException", Cond.initialized "java/lang/IndexOutOfBoundsException", Cond.methodLink RX5 262 yX5_isDesk, Cond.static yX5_isDesk, Cond.code yX5_isDesk cX5_isDesk 1 (some .boolean), Cond.methodLink RX5 127 yX5_checkPlace, Cond.static yX5_checkPlace, Cond.code yX5_checkPlace cX5_checkPlace 1 none, Cond.methodLink RX5 270 yX5_isPlace, Cond.static yX5_isPlace, Cond.code yX5_isPlace cX5_isPlace 1 (some .boolean), Cond.methodLink RX5 151 yX3_noteFor, Cond.instanceMethod yX3_noteFor, Cond.selects RX3 yX3_noteFor yX3_noteFor, Cond.initialized RX3, Cond.code yX3_noteFor cX3_noteFor 3 (some .int), Cond.fieldLink RX3 17 "BranchNotes$State" "desks" "[LBranchNotes$Desk;", Cond.fieldLink RX3 9 "BranchNotes$State" "settings" "[I", Cond.methodLink RX3 76 yX0_noteFor]
def wsX5_noteOf_r2 : List Cond := [Cond.instanceMethod yX0_noteFor, Cond.selects RX0 yX0_noteFor yX0_noteFor, Cond.initialized RX0, Cond.code yX0_noteFor cX0_noteFor 5 (some .int), Cond.fieldLink RX0 9 "BranchNotes$Desk" "settings" "[I", Cond.methodLink RX0 50 yX0_pathFor, Cond.instanceMethod yX0_pathFor, Cond.selects RX0 yX0_pathFor yX0_pathFor, Cond.code yX0_pathFor cX0_pathFor 2 (some .int), Cond.fieldLink RX0 27 "BranchNotes$Desk" "paths" "[I"]
def wsX5_noteOf : List Cond := .code yX5_noteOf cX5_noteOf 3 (some .int) :: ((wsX5_noteOf_r1 ++ wsX5_noteOf_r2) ++ wsX50 ++ wsX30 ++ wsX00 ++ (vx_atS RX5 269 "java/lang/IndexOutOfBoundsException" ["java/lang/RuntimeException", "java/lang/Exception"]).filter goodWord)
def wsX5_quotientBits : List Cond := .code yX5_quotientBits cX5_quotientBits 7 (some .int) :: ([.constantLong RX5 282 (2)])
def wsX5_share : List Cond := .code yX5_share cX5_share 3 (some .int) :: ([.fieldLink RX5 19 "BranchNotes" "state" "LBranchNotes$State;", .fieldLink RX5 130 "BranchNotes$State" "goneAt" "[I", .fieldLink RX5 133 "BranchNotes$State" "takenAt" "[I", .constant RX5 65 (-99999), .methodLink RX5 127 yX5_checkPlace, .static yX5_checkPlace, .initialized RX5, .code yX5_checkPlace cX5_checkPlace 1 none, .classLink RX5 265 "java/lang/IndexOutOfBoundsException", .initialized "java/lang/IndexOutOfBoundsException", .methodLink RX5 270 yX5_isPlace, .static yX5_isPlace, .code yX5_isPlace cX5_isPlace 1 (some .boolean), .methodLink RX5 155 yX5_quotientBits, .static yX5_quotientBits, .code yX5_quotientBits cX5_quotientBits 7 (some .int), .constantLong RX5 282 (2)] ++ wsX50 ++ wsX30 ++ (vx_atS RX5 269 "java/lang/IndexOutOfBoundsException" ["java/lang/RuntimeException", "java/lang/Exception"]).filter goodWord)
def wsX5_setDesk_r1 : List Cond := [Cond.classLink RX5 41 "java/lang/IllegalArgumentException", Cond.initialized "java/lang/IllegalArgumentException", Cond.fieldLink RX5 29 "BranchNotes" "history" "LBranchNotes$History;", Cond.fieldLink RX5 19 "BranchNotes" "state" "LBranchNotes$State;", Cond.fieldLink RX5 78 "BranchNotes$State" "desks" "[LBranchNotes$Desk;", Cond.fieldLink RX5 103 "BranchNotes$Desk" "settings" "[I", Cond.methodLink RX5 99 yX5_checkDesk, Cond.static yX5_checkDesk, Cond.initialized RX5, Cond.code yX5_checkDesk cX5_checkDesk 1 none, Cond.classLink RX5 265 "java/lang/IndexOutOfBoundsException", Cond.initialized "java/lang/IndexOutOfBoundsException", Cond.methodLink RX5 262 yX5_isDesk, Cond.static yX5_isDesk, Cond.code yX5_isDesk cX5_isDesk 1 (some .boolean), Cond.methodLink RX5 158 yX5_isDeskSetting, Cond.static yX5_isDeskSetting, Cond.code yX5_isDeskSetting cX5_isDeskSetting 2 (some .boolean), Cond.fieldLink RX5 253 "BranchNotes" "DESK_MOST" "[I", Cond.methodLink RX5 164 yX1_remember, Cond.instanceMethod yX1_remember, Cond.selects RX1 yX1_remember yX1_remember, Cond.initialized RX1, Cond.code yX1_remember cX1_remember 2 none]
def wsX5_setDesk_r2 : List Cond := [Cond.fieldLink RX1 16 "BranchNotes$History" "count" "I", Cond.fieldLink RX1 20 "BranchNotes$History" "oldest" "I", Cond.fieldLink RX1 11 "BranchNotes$History" "ring" "[LBranchNotes$State;", Cond.methodLink RX1 23 yX3_copyFrom, Cond.instanceMethod yX3_copyFrom, Cond.selects RX3 yX3_copyFrom yX3_copyFrom, Cond.initialized RX3, Cond.code yX3_copyFrom cX3_copyFrom 3 none, Cond.fieldLink RX3 9 "BranchNotes$State" "settings" "[I", Cond.methodLink RX3 38 arraycopyName, Cond.native arraycopyName, Cond.static arraycopyName, Cond.initialized "java/lang/System", Cond.fieldLink RX3 17 "BranchNotes$State" "desks" "[LBranchNotes$Desk;", Cond.fieldLink RX3 21 "BranchNotes$State" "choosers" "[I", Cond.fieldLink RX3 24 "BranchNotes$State" "goneAt" "[I", Cond.fieldLink RX3 27 "BranchNotes$State" "takenAt" "[I", Cond.fieldLink RX3 30 "BranchNotes$State" "rightAt" "[I", Cond.fieldLink RX3 48 "BranchNotes$State" "gone" "I", Cond.fieldLink RX3 52 "BranchNotes$State" "right" "I", Cond.fieldLink RX3 55 "BranchNotes$State" "points" "I", Cond.fieldLink RX3 58 "BranchNotes$State" "series" "I", Cond.fieldLink RX3 61 "BranchNotes$State" "longestSeries" "I", Cond.methodLink RX3 44 yX0_copyFrom]
def wsX5_setDesk_r3 : List Cond := [Cond.instanceMethod yX0_copyFrom, Cond.selects RX0 yX0_copyFrom yX0_copyFrom, Cond.initialized RX0, Cond.code yX0_copyFrom cX0_copyFrom 2 none, Cond.fieldLink RX0 9 "BranchNotes$Desk" "settings" "[I", Cond.methodLink RX0 30 arraycopyName, Cond.fieldLink RX0 15 "BranchNotes$Desk" "strengths" "[I", Cond.fieldLink RX0 18 "BranchNotes$Desk" "lastPlaces" "[I", Cond.fieldLink RX0 21 "BranchNotes$Desk" "uses" "[I", Cond.fieldLink RX0 24 "BranchNotes$Desk" "rights" "[I", Cond.fieldLink RX0 27 "BranchNotes$Desk" "paths" "[I", Cond.fieldLink RX0 36 "BranchNotes$Desk" "clashes" "I", Cond.fieldLink RX0 40 "BranchNotes$Desk" "right" "I", Cond.methodLink RX5 168 yX3_changeDesk, Cond.instanceMethod yX3_changeDesk, Cond.selects RX3 yX3_changeDesk yX3_changeDesk, Cond.code yX3_changeDesk cX3_changeDesk 4 none, Cond.fieldLink RX3 34 "BranchNotes$Desk" "settings" "[I", Cond.methodLink RX3 35 yX3_beginAnew, Cond.instanceMethod yX3_beginAnew, Cond.selects RX3 yX3_beginAnew yX3_beginAnew, Cond.code yX3_beginAnew cX3_beginAnew 2 none, Cond.methodLink RX3 64 yX0_beginAnew, Cond.instanceMethod yX0_beginAnew]
def wsX5_setDesk_r4 : List Cond := [Cond.selects RX0 yX0_beginAnew yX0_beginAnew, Cond.code yX0_beginAnew cX0_beginAnew 2 none, Cond.constant RX0 49 (-99999), Cond.methodLink RX0 43 yJ7_fill_53178, Cond.static yJ7_fill_53178, Cond.initialized RJ7, Cond.code yJ7_fill_53178 cJ7_fill_53178 4 none, Cond.methodLink RX3 67 yJ7_fill_53178]
def wsX5_setDesk : List Cond := .code yX5_setDesk cX5_setDesk 5 (some .int) :: ((wsX5_setDesk_r1 ++ (wsX5_setDesk_r2 ++ (wsX5_setDesk_r3 ++ wsX5_setDesk_r4))) ++ wsX50 ++ wsX30 ++ wsX00 ++ wsX10 ++ (vx_atS RX5 45 "java/lang/IllegalArgumentException" ["java/lang/RuntimeException", "java/lang/Exception"]).filter goodWord ++ (vx_atS RX5 269 "java/lang/IndexOutOfBoundsException" ["java/lang/RuntimeException", "java/lang/Exception"]).filter goodWord)
def wsX5_set_r1 : List Cond := [Cond.classLink RX5 41 "java/lang/IllegalArgumentException", Cond.initialized "java/lang/IllegalArgumentException", Cond.fieldLink RX5 29 "BranchNotes" "history" "LBranchNotes$History;", Cond.fieldLink RX5 19 "BranchNotes" "state" "LBranchNotes$State;", Cond.fieldLink RX5 93 "BranchNotes$State" "settings" "[I", Cond.methodLink RX5 172 yX5_isCommonSetting, Cond.static yX5_isCommonSetting, Cond.initialized RX5, Cond.code yX5_isCommonSetting cX5_isCommonSetting 2 (some .boolean), Cond.fieldLink RX5 256 "BranchNotes" "COMMON_LEAST" "[I", Cond.fieldLink RX5 259 "BranchNotes" "COMMON_MOST" "[I", Cond.methodLink RX5 164 yX1_remember, Cond.instanceMethod yX1_remember, Cond.selects RX1 yX1_remember yX1_remember, Cond.initialized RX1, Cond.code yX1_remember cX1_remember 2 none, Cond.fieldLink RX1 16 "BranchNotes$History" "count" "I", Cond.fieldLink RX1 20 "BranchNotes$History" "oldest" "I", Cond.fieldLink RX1 11 "BranchNotes$History" "ring" "[LBranchNotes$State;", Cond.methodLink RX1 23 yX3_copyFrom, Cond.instanceMethod yX3_copyFrom, Cond.selects RX3 yX3_copyFrom yX3_copyFrom, Cond.initialized RX3, Cond.code yX3_copyFrom cX3_copyFrom 3 none]
def wsX5_set_r2 : List Cond := [Cond.fieldLink RX3 9 "BranchNotes$State" "settings" "[I", Cond.methodLink RX3 38 arraycopyName, Cond.native arraycopyName, Cond.static arraycopyName, Cond.initialized "java/lang/System", Cond.fieldLink RX3 17 "BranchNotes$State" "desks" "[LBranchNotes$Desk;", Cond.fieldLink RX3 21 "BranchNotes$State" "choosers" "[I", Cond.fieldLink RX3 24 "BranchNotes$State" "goneAt" "[I", Cond.fieldLink RX3 27 "BranchNotes$State" "takenAt" "[I", Cond.fieldLink RX3 30 "BranchNotes$State" "rightAt" "[I", Cond.fieldLink RX3 48 "BranchNotes$State" "gone" "I", Cond.fieldLink RX3 52 "BranchNotes$State" "right" "I", Cond.fieldLink RX3 55 "BranchNotes$State" "points" "I", Cond.fieldLink RX3 58 "BranchNotes$State" "series" "I", Cond.fieldLink RX3 61 "BranchNotes$State" "longestSeries" "I", Cond.methodLink RX3 44 yX0_copyFrom, Cond.instanceMethod yX0_copyFrom, Cond.selects RX0 yX0_copyFrom yX0_copyFrom, Cond.initialized RX0, Cond.code yX0_copyFrom cX0_copyFrom 2 none, Cond.fieldLink RX0 9 "BranchNotes$Desk" "settings" "[I", Cond.methodLink RX0 30 arraycopyName, Cond.fieldLink RX0 15 "BranchNotes$Desk" "strengths" "[I", Cond.fieldLink RX0 18 "BranchNotes$Desk" "lastPlaces" "[I"]
def wsX5_set_r3 : List Cond := [Cond.fieldLink RX0 21 "BranchNotes$Desk" "uses" "[I", Cond.fieldLink RX0 24 "BranchNotes$Desk" "rights" "[I", Cond.fieldLink RX0 27 "BranchNotes$Desk" "paths" "[I", Cond.fieldLink RX0 36 "BranchNotes$Desk" "clashes" "I", Cond.fieldLink RX0 40 "BranchNotes$Desk" "right" "I", Cond.methodLink RX5 177 yX3_changeBoth, Cond.instanceMethod yX3_changeBoth, Cond.selects RX3 yX3_changeBoth yX3_changeBoth, Cond.code yX3_changeBoth cX3_changeBoth 3 none, Cond.methodLink RX3 35 yX3_beginAnew, Cond.instanceMethod yX3_beginAnew, Cond.selects RX3 yX3_beginAnew yX3_beginAnew, Cond.code yX3_beginAnew cX3_beginAnew 2 none, Cond.methodLink RX3 64 yX0_beginAnew, Cond.instanceMethod yX0_beginAnew, Cond.selects RX0 yX0_beginAnew yX0_beginAnew, Cond.code yX0_beginAnew cX0_beginAnew 2 none, Cond.constant RX0 49 (-99999), Cond.methodLink RX0 43 yJ7_fill_53178, Cond.static yJ7_fill_53178, Cond.initialized RJ7, Cond.code yJ7_fill_53178 cJ7_fill_53178 4 none, Cond.methodLink RX3 67 yJ7_fill_53178]
def wsX5_set : List Cond := .code yX5_set cX5_set 4 (some .int) :: ((wsX5_set_r1 ++ (wsX5_set_r2 ++ wsX5_set_r3)) ++ wsX50 ++ wsX30 ++ wsX10 ++ wsX00 ++ (vx_atS RX5 45 "java/lang/IllegalArgumentException" ["java/lang/RuntimeException", "java/lang/Exception"]).filter goodWord)
def wsX5_strengthen_r1 : List Cond := [Cond.classLink RX5 41 "java/lang/IllegalArgumentException", Cond.initialized "java/lang/IllegalArgumentException", Cond.fieldLink RX5 19 "BranchNotes" "state" "LBranchNotes$State;", Cond.fieldLink RX5 29 "BranchNotes" "history" "LBranchNotes$History;", Cond.fieldLink RX5 78 "BranchNotes$State" "desks" "[LBranchNotes$Desk;", Cond.fieldLink RX5 113 "BranchNotes$Desk" "strengths" "[I", Cond.methodLink RX5 99 yX5_checkDesk, Cond.static yX5_checkDesk, Cond.initialized RX5, Cond.code yX5_checkDesk cX5_checkDesk 1 none, Cond.classLink RX5 265 "java/lang/IndexOutOfBoundsException", Cond.initialized "java/lang/IndexOutOfBoundsException", Cond.methodLink RX5 262 yX5_isDesk, Cond.static yX5_isDesk, Cond.code yX5_isDesk cX5_isDesk 1 (some .boolean), Cond.methodLink RX5 110 yX5_checkNote, Cond.instanceMethod yX5_checkNote, Cond.selects RX5 yX5_checkNote yX5_checkNote, Cond.code yX5_checkNote cX5_checkNote 2 none, Cond.methodLink RX5 277 yX3_isNote, Cond.instanceMethod yX3_isNote, Cond.selects RX3 yX3_isNote yX3_isNote, Cond.initialized RX3, Cond.code yX3_isNote cX3_isNote 2 (some .boolean)]
def wsX5_strengthen_r2 : List Cond := [Cond.fieldLink RX3 9 "BranchNotes$State" "settings" "[I", Cond.methodLink RX5 184 yX3_isStrength, Cond.instanceMethod yX3_isStrength, Cond.selects RX3 yX3_isStrength yX3_isStrength, Cond.code yX3_isStrength cX3_isStrength 2 (some .boolean), Cond.methodLink RX5 164 yX1_remember, Cond.instanceMethod yX1_remember, Cond.selects RX1 yX1_remember yX1_remember, Cond.initialized RX1, Cond.code yX1_remember cX1_remember 2 none, Cond.fieldLink RX1 16 "BranchNotes$History" "count" "I", Cond.fieldLink RX1 20 "BranchNotes$History" "oldest" "I", Cond.fieldLink RX1 11 "BranchNotes$History" "ring" "[LBranchNotes$State;", Cond.methodLink RX1 23 yX3_copyFrom, Cond.instanceMethod yX3_copyFrom, Cond.selects RX3 yX3_copyFrom yX3_copyFrom, Cond.code yX3_copyFrom cX3_copyFrom 3 none, Cond.methodLink RX3 38 arraycopyName, Cond.native arraycopyName, Cond.static arraycopyName, Cond.initialized "java/lang/System", Cond.fieldLink RX3 17 "BranchNotes$State" "desks" "[LBranchNotes$Desk;", Cond.fieldLink RX3 21 "BranchNotes$State" "choosers" "[I", Cond.fieldLink RX3 24 "BranchNotes$State" "goneAt" "[I"]
def wsX5_strengthen_r3 : List Cond := [Cond.fieldLink RX3 27 "BranchNotes$State" "takenAt" "[I", Cond.fieldLink RX3 30 "BranchNotes$State" "rightAt" "[I", Cond.fieldLink RX3 48 "BranchNotes$State" "gone" "I", Cond.fieldLink RX3 52 "BranchNotes$State" "right" "I", Cond.fieldLink RX3 55 "BranchNotes$State" "points" "I", Cond.fieldLink RX3 58 "BranchNotes$State" "series" "I", Cond.fieldLink RX3 61 "BranchNotes$State" "longestSeries" "I", Cond.methodLink RX3 44 yX0_copyFrom, Cond.instanceMethod yX0_copyFrom, Cond.selects RX0 yX0_copyFrom yX0_copyFrom, Cond.initialized RX0, Cond.code yX0_copyFrom cX0_copyFrom 2 none, Cond.fieldLink RX0 9 "BranchNotes$Desk" "settings" "[I", Cond.methodLink RX0 30 arraycopyName, Cond.fieldLink RX0 15 "BranchNotes$Desk" "strengths" "[I", Cond.fieldLink RX0 18 "BranchNotes$Desk" "lastPlaces" "[I", Cond.fieldLink RX0 21 "BranchNotes$Desk" "uses" "[I", Cond.fieldLink RX0 24 "BranchNotes$Desk" "rights" "[I", Cond.fieldLink RX0 27 "BranchNotes$Desk" "paths" "[I", Cond.fieldLink RX0 36 "BranchNotes$Desk" "clashes" "I", Cond.fieldLink RX0 40 "BranchNotes$Desk" "right" "I"]
def wsX5_strengthen : List Cond := .code yX5_strengthen cX5_strengthen 5 (some .int) :: ((wsX5_strengthen_r1 ++ (wsX5_strengthen_r2 ++ wsX5_strengthen_r3)) ++ wsX50 ++ wsX30 ++ wsX00 ++ wsX10 ++ (vx_atS RX5 45 "java/lang/IllegalArgumentException" ["java/lang/RuntimeException", "java/lang/Exception"]).filter goodWord ++ (vx_atS RX5 269 "java/lang/IndexOutOfBoundsException" ["java/lang/RuntimeException", "java/lang/Exception"]).filter goodWord)
def wsX5_branch_r1 : List Cond := [Cond.fieldLink RX5 29 "BranchNotes" "history" "LBranchNotes$History;", Cond.fieldLink RX5 19 "BranchNotes" "state" "LBranchNotes$State;", Cond.methodLink RX5 127 yX5_checkPlace, Cond.static yX5_checkPlace, Cond.initialized RX5, Cond.code yX5_checkPlace cX5_checkPlace 1 none, Cond.classLink RX5 265 "java/lang/IndexOutOfBoundsException", Cond.initialized "java/lang/IndexOutOfBoundsException", Cond.methodLink RX5 270 yX5_isPlace, Cond.static yX5_isPlace, Cond.code yX5_isPlace cX5_isPlace 1 (some .boolean), Cond.methodLink RX5 164 yX1_remember, Cond.instanceMethod yX1_remember, Cond.selects RX1 yX1_remember yX1_remember, Cond.initialized RX1, Cond.code yX1_remember cX1_remember 2 none, Cond.fieldLink RX1 16 "BranchNotes$History" "count" "I", Cond.fieldLink RX1 20 "BranchNotes$History" "oldest" "I", Cond.fieldLink RX1 11 "BranchNotes$History" "ring" "[LBranchNotes$State;", Cond.methodLink RX1 23 yX3_copyFrom, Cond.instanceMethod yX3_copyFrom, Cond.selects RX3 yX3_copyFrom yX3_copyFrom, Cond.initialized RX3, Cond.code yX3_copyFrom cX3_copyFrom 3 none]
def wsX5_branch_r2 : List Cond := [Cond.fieldLink RX3 9 "BranchNotes$State" "settings" "[I", Cond.methodLink RX3 38 arraycopyName, Cond.native arraycopyName, Cond.static arraycopyName, Cond.initialized "java/lang/System", Cond.fieldLink RX3 17 "BranchNotes$State" "desks" "[LBranchNotes$Desk;", Cond.fieldLink RX3 21 "BranchNotes$State" "choosers" "[I", Cond.fieldLink RX3 24 "BranchNotes$State" "goneAt" "[I", Cond.fieldLink RX3 27 "BranchNotes$State" "takenAt" "[I", Cond.fieldLink RX3 30 "BranchNotes$State" "rightAt" "[I", Cond.fieldLink RX3 48 "BranchNotes$State" "gone" "I", Cond.fieldLink RX3 52 "BranchNotes$State" "right" "I", Cond.fieldLink RX3 55 "BranchNotes$State" "points" "I", Cond.fieldLink RX3 58 "BranchNotes$State" "series" "I", Cond.fieldLink RX3 61 "BranchNotes$State" "longestSeries" "I", Cond.methodLink RX3 44 yX0_copyFrom, Cond.instanceMethod yX0_copyFrom, Cond.selects RX0 yX0_copyFrom yX0_copyFrom, Cond.initialized RX0, Cond.code yX0_copyFrom cX0_copyFrom 2 none, Cond.fieldLink RX0 9 "BranchNotes$Desk" "settings" "[I", Cond.methodLink RX0 30 arraycopyName, Cond.fieldLink RX0 15 "BranchNotes$Desk" "strengths" "[I", Cond.fieldLink RX0 18 "BranchNotes$Desk" "lastPlaces" "[I"]
def wsX5_branch_r3 : List Cond := [Cond.fieldLink RX0 21 "BranchNotes$Desk" "uses" "[I", Cond.fieldLink RX0 24 "BranchNotes$Desk" "rights" "[I", Cond.fieldLink RX0 27 "BranchNotes$Desk" "paths" "[I", Cond.fieldLink RX0 36 "BranchNotes$Desk" "clashes" "I", Cond.fieldLink RX0 40 "BranchNotes$Desk" "right" "I", Cond.methodLink RX5 189 yX3_go, Cond.instanceMethod yX3_go, Cond.selects RX3 yX3_go yX3_go, Cond.code yX3_go cX3_go 7 (some .boolean), Cond.methodLink RX3 83 yX3_deskSays, Cond.instanceMethod yX3_deskSays, Cond.selects RX3 yX3_deskSays yX3_deskSays, Cond.code yX3_deskSays cX3_deskSays 4 (some .boolean), Cond.fieldLink RX3 80 "BranchNotes$Desk" "strengths" "[I", Cond.methodLink RX3 76 yX0_noteFor, Cond.instanceMethod yX0_noteFor, Cond.selects RX0 yX0_noteFor yX0_noteFor, Cond.code yX0_noteFor cX0_noteFor 5 (some .int), Cond.methodLink RX0 50 yX0_pathFor, Cond.instanceMethod yX0_pathFor, Cond.selects RX0 yX0_pathFor yX0_pathFor, Cond.code yX0_pathFor cX0_pathFor 2 (some .int), Cond.methodLink RX3 87 yX3_countGuess, Cond.instanceMethod yX3_countGuess]
def wsX5_branch_r4 : List Cond := [Cond.selects RX3 yX3_countGuess yX3_countGuess, Cond.code yX3_countGuess cX3_countGuess 4 none, Cond.methodLink RX3 115 Lib.Math.max.name, Cond.static Lib.Math.max.name, Cond.initialized "java/lang/Math", Cond.code Lib.Math.max.name Lib.Math.max.code 2 (some .int), Cond.methodLink RX3 91 yX3_moveChooser, Cond.instanceMethod yX3_moveChooser, Cond.selects RX3 yX3_moveChooser yX3_moveChooser, Cond.code yX3_moveChooser cX3_moveChooser 3 none, Cond.methodLink RX3 120 Lib.Math.min.name, Cond.static Lib.Math.min.name, Cond.code Lib.Math.min.name Lib.Math.min.code 2 (some .int), Cond.methodLink RX3 95 yX3_noteFor, Cond.instanceMethod yX3_noteFor, Cond.selects RX3 yX3_noteFor yX3_noteFor, Cond.code yX3_noteFor cX3_noteFor 3 (some .int), Cond.methodLink RX3 96 yX0_use, Cond.instanceMethod yX0_use, Cond.selects RX0 yX0_use yX0_use, Cond.code yX0_use cX0_use 5 none, Cond.methodLink RX0 54 Lib.Math.min.name, Cond.methodLink RX0 60 Lib.Math.max.name, Cond.methodLink RX3 100 yX0_changePath]
def wsX5_branch_r5 : List Cond := [Cond.instanceMethod yX0_changePath, Cond.selects RX0 yX0_changePath yX0_changePath, Cond.code yX0_changePath cX0_changePath 4 none]
def wsX5_branch : List Cond := .code yX5_branch cX5_branch 3 (some .boolean) :: ((wsX5_branch_r1 ++ (wsX5_branch_r2 ++ (wsX5_branch_r3 ++ (wsX5_branch_r4 ++ wsX5_branch_r5)))) ++ wsX50 ++ wsX10 ++ wsX30 ++ wsX00 ++ (vx_atS RX5 269 "java/lang/IndexOutOfBoundsException" ["java/lang/RuntimeException", "java/lang/Exception"]).filter goodWord)
def wsX5_play_r1 : List Cond := [Cond.classLink RX5 52 "java/lang/IllegalStateException", Cond.initialized "java/lang/IllegalStateException", Cond.fieldLink RX5 10 "BranchNotes" "text" "LBranchNotes$Text;", Cond.fieldLink RX5 29 "BranchNotes" "history" "LBranchNotes$History;", Cond.fieldLink RX5 19 "BranchNotes" "state" "LBranchNotes$State;", Cond.fieldLink RX5 72 "BranchNotes$State" "right" "I", Cond.methodLink RX5 193 yX4_isPlayable, Cond.instanceMethod yX4_isPlayable, Cond.selects RX4 yX4_isPlayable yX4_isPlayable, Cond.initialized RX4, Cond.code yX4_isPlayable cX4_isPlayable 1 (some .boolean), Cond.constant RX4 29 (-99999), Cond.fieldLink RX4 30 "BranchNotes$Text" "stepCount" "I", Cond.methodLink RX4 25 yX4_read, Cond.instanceMethod yX4_read, Cond.selects RX4 yX4_read yX4_read, Cond.code yX4_read cX4_read 2 (some .int), Cond.fieldLink RX4 33 "BranchNotes$Text" "open" "I", Cond.fieldLink RX4 36 "BranchNotes$Text" "expected" "I", Cond.fieldLink RX4 21 "BranchNotes$Text" "length" "I", Cond.fieldLink RX4 11 "BranchNotes$Text" "codes" "[I", Cond.methodLink RX4 39 yX4_readCharacter, Cond.instanceMethod yX4_readCharacter, Cond.selects RX4 yX4_readCharacter yX4_readCharacter]
def wsX5_play_r2 : List Cond := [Cond.code yX4_readCharacter cX4_readCharacter 2 (some .boolean), Cond.methodLink RX4 43 yX4_readSign, Cond.instanceMethod yX4_readSign, Cond.selects RX4 yX4_readSign yX4_readSign, Cond.code yX4_readSign cX4_readSign 2 (some .boolean), Cond.fieldLink RX4 15 "BranchNotes$Text" "steps" "[I", Cond.fieldLink RX4 52 "BranchNotes$Text" "letter" "I", Cond.methodLink RX4 46 yX4_readDigit, Cond.instanceMethod yX4_readDigit, Cond.selects RX4 yX4_readDigit yX4_readDigit, Cond.code yX4_readDigit cX4_readDigit 2 (some .boolean), Cond.fieldLink RX4 18 "BranchNotes$Text" "starts" "[I", Cond.methodLink RX4 55 yX4_repeatFrom, Cond.instanceMethod yX4_repeatFrom, Cond.selects RX4 yX4_repeatFrom yX4_repeatFrom, Cond.code yX4_repeatFrom cX4_repeatFrom 6 none, Cond.methodLink RX4 49 yX4_readItem, Cond.instanceMethod yX4_readItem, Cond.selects RX4 yX4_readItem yX4_readItem, Cond.code yX4_readItem cX4_readItem 2 (some .boolean), Cond.methodLink RX5 164 yX1_remember, Cond.instanceMethod yX1_remember, Cond.selects RX1 yX1_remember yX1_remember, Cond.initialized RX1]
def wsX5_play_r3 : List Cond := [Cond.code yX1_remember cX1_remember 2 none, Cond.fieldLink RX1 16 "BranchNotes$History" "count" "I", Cond.fieldLink RX1 20 "BranchNotes$History" "oldest" "I", Cond.fieldLink RX1 11 "BranchNotes$History" "ring" "[LBranchNotes$State;", Cond.methodLink RX1 23 yX3_copyFrom, Cond.instanceMethod yX3_copyFrom, Cond.selects RX3 yX3_copyFrom yX3_copyFrom, Cond.initialized RX3, Cond.code yX3_copyFrom cX3_copyFrom 3 none, Cond.fieldLink RX3 9 "BranchNotes$State" "settings" "[I", Cond.methodLink RX3 38 arraycopyName, Cond.native arraycopyName, Cond.static arraycopyName, Cond.initialized "java/lang/System", Cond.fieldLink RX3 17 "BranchNotes$State" "desks" "[LBranchNotes$Desk;", Cond.fieldLink RX3 21 "BranchNotes$State" "choosers" "[I", Cond.fieldLink RX3 24 "BranchNotes$State" "goneAt" "[I", Cond.fieldLink RX3 27 "BranchNotes$State" "takenAt" "[I", Cond.fieldLink RX3 30 "BranchNotes$State" "rightAt" "[I", Cond.fieldLink RX3 48 "BranchNotes$State" "gone" "I", Cond.fieldLink RX3 52 "BranchNotes$State" "right" "I", Cond.fieldLink RX3 55 "BranchNotes$State" "points" "I", Cond.fieldLink RX3 58 "BranchNotes$State" "series" "I", Cond.fieldLink RX3 61 "BranchNotes$State" "longestSeries" "I"]
def wsX5_play_r4 : List Cond := [Cond.methodLink RX3 44 yX0_copyFrom, Cond.instanceMethod yX0_copyFrom, Cond.selects RX0 yX0_copyFrom yX0_copyFrom, Cond.initialized RX0, Cond.code yX0_copyFrom cX0_copyFrom 2 none, Cond.fieldLink RX0 9 "BranchNotes$Desk" "settings" "[I", Cond.methodLink RX0 30 arraycopyName, Cond.fieldLink RX0 15 "BranchNotes$Desk" "strengths" "[I", Cond.fieldLink RX0 18 "BranchNotes$Desk" "lastPlaces" "[I", Cond.fieldLink RX0 21 "BranchNotes$Desk" "uses" "[I", Cond.fieldLink RX0 24 "BranchNotes$Desk" "rights" "[I", Cond.fieldLink RX0 27 "BranchNotes$Desk" "paths" "[I", Cond.fieldLink RX0 36 "BranchNotes$Desk" "clashes" "I", Cond.fieldLink RX0 40 "BranchNotes$Desk" "right" "I", Cond.methodLink RX5 199 yX3_goAll, Cond.instanceMethod yX3_goAll, Cond.selects RX3 yX3_goAll yX3_goAll, Cond.code yX3_goAll cX3_goAll 4 none, Cond.fieldLink RX3 103 "BranchNotes$Text" "stepCount" "I", Cond.fieldLink RX3 108 "BranchNotes$Text" "steps" "[I", Cond.methodLink RX3 111 yX3_go, Cond.instanceMethod yX3_go, Cond.selects RX3 yX3_go yX3_go, Cond.code yX3_go cX3_go 7 (some .boolean)]
def wsX5_play_r5 : List Cond := [Cond.methodLink RX3 83 yX3_deskSays, Cond.instanceMethod yX3_deskSays, Cond.selects RX3 yX3_deskSays yX3_deskSays, Cond.code yX3_deskSays cX3_deskSays 4 (some .boolean), Cond.fieldLink RX3 80 "BranchNotes$Desk" "strengths" "[I", Cond.methodLink RX3 76 yX0_noteFor, Cond.instanceMethod yX0_noteFor, Cond.selects RX0 yX0_noteFor yX0_noteFor, Cond.code yX0_noteFor cX0_noteFor 5 (some .int), Cond.methodLink RX0 50 yX0_pathFor, Cond.instanceMethod yX0_pathFor, Cond.selects RX0 yX0_pathFor yX0_pathFor, Cond.code yX0_pathFor cX0_pathFor 2 (some .int), Cond.methodLink RX3 87 yX3_countGuess, Cond.instanceMethod yX3_countGuess, Cond.selects RX3 yX3_countGuess yX3_countGuess, Cond.code yX3_countGuess cX3_countGuess 4 none, Cond.methodLink RX3 115 Lib.Math.max.name, Cond.static Lib.Math.max.name, Cond.initialized "java/lang/Math", Cond.code Lib.Math.max.name Lib.Math.max.code 2 (some .int), Cond.methodLink RX3 91 yX3_moveChooser, Cond.instanceMethod yX3_moveChooser, Cond.selects RX3 yX3_moveChooser yX3_moveChooser]
def wsX5_play_r6 : List Cond := [Cond.code yX3_moveChooser cX3_moveChooser 3 none, Cond.methodLink RX3 120 Lib.Math.min.name, Cond.static Lib.Math.min.name, Cond.code Lib.Math.min.name Lib.Math.min.code 2 (some .int), Cond.methodLink RX3 95 yX3_noteFor, Cond.instanceMethod yX3_noteFor, Cond.selects RX3 yX3_noteFor yX3_noteFor, Cond.code yX3_noteFor cX3_noteFor 3 (some .int), Cond.methodLink RX3 96 yX0_use, Cond.instanceMethod yX0_use, Cond.selects RX0 yX0_use yX0_use, Cond.code yX0_use cX0_use 5 none, Cond.methodLink RX0 54 Lib.Math.min.name, Cond.methodLink RX0 60 Lib.Math.max.name, Cond.methodLink RX3 100 yX0_changePath, Cond.instanceMethod yX0_changePath, Cond.selects RX0 yX0_changePath yX0_changePath, Cond.code yX0_changePath cX0_changePath 4 none]
def wsX5_play : List Cond := .code yX5_play cX5_play 2 (some .int) :: ((wsX5_play_r1 ++ (wsX5_play_r2 ++ (wsX5_play_r3 ++ (wsX5_play_r4 ++ (wsX5_play_r5 ++ wsX5_play_r6))))) ++ wsX50 ++ wsX30 ++ wsX40 ++ wsX10 ++ wsX00 ++ (vx_atS RX5 56 "java/lang/IllegalStateException" ["java/lang/RuntimeException", "java/lang/Exception"]).filter goodWord)
def wsX5_undo_r1 : List Cond := [Cond.classLink RX5 52 "java/lang/IllegalStateException", Cond.initialized "java/lang/IllegalStateException", Cond.fieldLink RX5 29 "BranchNotes" "history" "LBranchNotes$History;", Cond.fieldLink RX5 19 "BranchNotes" "state" "LBranchNotes$State;", Cond.fieldLink RX5 209 "BranchNotes$History" "count" "I", Cond.methodLink RX5 203 yX1_takeBack, Cond.instanceMethod yX1_takeBack, Cond.selects RX1 yX1_takeBack yX1_takeBack, Cond.initialized RX1, Cond.code yX1_takeBack cX1_takeBack 2 (some .boolean), Cond.fieldLink RX1 16 "BranchNotes$History" "count" "I", Cond.fieldLink RX1 11 "BranchNotes$History" "ring" "[LBranchNotes$State;", Cond.fieldLink RX1 20 "BranchNotes$History" "oldest" "I", Cond.methodLink RX1 23 yX3_copyFrom, Cond.instanceMethod yX3_copyFrom, Cond.selects RX3 yX3_copyFrom yX3_copyFrom, Cond.initialized RX3, Cond.code yX3_copyFrom cX3_copyFrom 3 none, Cond.fieldLink RX3 9 "BranchNotes$State" "settings" "[I", Cond.methodLink RX3 38 arraycopyName, Cond.native arraycopyName, Cond.static arraycopyName, Cond.initialized "java/lang/System", Cond.fieldLink RX3 17 "BranchNotes$State" "desks" "[LBranchNotes$Desk;"]
def wsX5_undo_r2 : List Cond := [Cond.fieldLink RX3 21 "BranchNotes$State" "choosers" "[I", Cond.fieldLink RX3 24 "BranchNotes$State" "goneAt" "[I", Cond.fieldLink RX3 27 "BranchNotes$State" "takenAt" "[I", Cond.fieldLink RX3 30 "BranchNotes$State" "rightAt" "[I", Cond.fieldLink RX3 48 "BranchNotes$State" "gone" "I", Cond.fieldLink RX3 52 "BranchNotes$State" "right" "I", Cond.fieldLink RX3 55 "BranchNotes$State" "points" "I", Cond.fieldLink RX3 58 "BranchNotes$State" "series" "I", Cond.fieldLink RX3 61 "BranchNotes$State" "longestSeries" "I", Cond.methodLink RX3 44 yX0_copyFrom, Cond.instanceMethod yX0_copyFrom, Cond.selects RX0 yX0_copyFrom yX0_copyFrom, Cond.initialized RX0, Cond.code yX0_copyFrom cX0_copyFrom 2 none, Cond.fieldLink RX0 9 "BranchNotes$Desk" "settings" "[I", Cond.methodLink RX0 30 arraycopyName, Cond.fieldLink RX0 15 "BranchNotes$Desk" "strengths" "[I", Cond.fieldLink RX0 18 "BranchNotes$Desk" "lastPlaces" "[I", Cond.fieldLink RX0 21 "BranchNotes$Desk" "uses" "[I", Cond.fieldLink RX0 24 "BranchNotes$Desk" "rights" "[I", Cond.fieldLink RX0 27 "BranchNotes$Desk" "paths" "[I", Cond.fieldLink RX0 36 "BranchNotes$Desk" "clashes" "I", Cond.fieldLink RX0 40 "BranchNotes$Desk" "right" "I"]
def wsX5_undo : List Cond := .code yX5_undo cX5_undo 1 (some .int) :: ((wsX5_undo_r1 ++ wsX5_undo_r2) ++ wsX50 ++ wsX10 ++ wsX30 ++ wsX00 ++ (vx_atS RX5 56 "java/lang/IllegalStateException" ["java/lang/RuntimeException", "java/lang/Exception"]).filter goodWord)
def wsX5_wouldBring_r1 : List Cond := [Cond.fieldLink RX5 10 "BranchNotes" "text" "LBranchNotes$Text;", Cond.constant RX5 65 (-99999), Cond.fieldLink RX5 23 "BranchNotes" "trial" "LBranchNotes$State;", Cond.fieldLink RX5 19 "BranchNotes" "state" "LBranchNotes$State;", Cond.fieldLink RX5 75 "BranchNotes$State" "points" "I", Cond.methodLink RX5 193 yX4_isPlayable, Cond.instanceMethod yX4_isPlayable, Cond.selects RX4 yX4_isPlayable yX4_isPlayable, Cond.initialized RX4, Cond.code yX4_isPlayable cX4_isPlayable 1 (some .boolean), Cond.constant RX4 29 (-99999), Cond.fieldLink RX4 30 "BranchNotes$Text" "stepCount" "I", Cond.methodLink RX4 25 yX4_read, Cond.instanceMethod yX4_read, Cond.selects RX4 yX4_read yX4_read, Cond.code yX4_read cX4_read 2 (some .int), Cond.fieldLink RX4 33 "BranchNotes$Text" "open" "I", Cond.fieldLink RX4 36 "BranchNotes$Text" "expected" "I", Cond.fieldLink RX4 21 "BranchNotes$Text" "length" "I", Cond.fieldLink RX4 11 "BranchNotes$Text" "codes" "[I", Cond.methodLink RX4 39 yX4_readCharacter, Cond.instanceMethod yX4_readCharacter, Cond.selects RX4 yX4_readCharacter yX4_readCharacter, Cond.code yX4_readCharacter cX4_readCharacter 2 (some .boolean)]
def wsX5_wouldBring_r2 : List Cond := [Cond.methodLink RX4 43 yX4_readSign, Cond.instanceMethod yX4_readSign, Cond.selects RX4 yX4_readSign yX4_readSign, Cond.code yX4_readSign cX4_readSign 2 (some .boolean), Cond.fieldLink RX4 15 "BranchNotes$Text" "steps" "[I", Cond.fieldLink RX4 52 "BranchNotes$Text" "letter" "I", Cond.methodLink RX4 46 yX4_readDigit, Cond.instanceMethod yX4_readDigit, Cond.selects RX4 yX4_readDigit yX4_readDigit, Cond.code yX4_readDigit cX4_readDigit 2 (some .boolean), Cond.fieldLink RX4 18 "BranchNotes$Text" "starts" "[I", Cond.methodLink RX4 55 yX4_repeatFrom, Cond.instanceMethod yX4_repeatFrom, Cond.selects RX4 yX4_repeatFrom yX4_repeatFrom, Cond.code yX4_repeatFrom cX4_repeatFrom 6 none, Cond.methodLink RX4 49 yX4_readItem, Cond.instanceMethod yX4_readItem, Cond.selects RX4 yX4_readItem yX4_readItem, Cond.code yX4_readItem cX4_readItem 2 (some .boolean), Cond.methodLink RX5 212 yX3_copyFrom, Cond.instanceMethod yX3_copyFrom, Cond.selects RX3 yX3_copyFrom yX3_copyFrom, Cond.initialized RX3, Cond.code yX3_copyFrom cX3_copyFrom 3 none]
def wsX5_wouldBring_r3 : List Cond := [Cond.fieldLink RX3 9 "BranchNotes$State" "settings" "[I", Cond.methodLink RX3 38 arraycopyName, Cond.native arraycopyName, Cond.static arraycopyName, Cond.initialized "java/lang/System", Cond.fieldLink RX3 17 "BranchNotes$State" "desks" "[LBranchNotes$Desk;", Cond.fieldLink RX3 21 "BranchNotes$State" "choosers" "[I", Cond.fieldLink RX3 24 "BranchNotes$State" "goneAt" "[I", Cond.fieldLink RX3 27 "BranchNotes$State" "takenAt" "[I", Cond.fieldLink RX3 30 "BranchNotes$State" "rightAt" "[I", Cond.fieldLink RX3 48 "BranchNotes$State" "gone" "I", Cond.fieldLink RX3 52 "BranchNotes$State" "right" "I", Cond.fieldLink RX3 55 "BranchNotes$State" "points" "I", Cond.fieldLink RX3 58 "BranchNotes$State" "series" "I", Cond.fieldLink RX3 61 "BranchNotes$State" "longestSeries" "I", Cond.methodLink RX3 44 yX0_copyFrom, Cond.instanceMethod yX0_copyFrom, Cond.selects RX0 yX0_copyFrom yX0_copyFrom, Cond.initialized RX0, Cond.code yX0_copyFrom cX0_copyFrom 2 none, Cond.fieldLink RX0 9 "BranchNotes$Desk" "settings" "[I", Cond.methodLink RX0 30 arraycopyName, Cond.fieldLink RX0 15 "BranchNotes$Desk" "strengths" "[I", Cond.fieldLink RX0 18 "BranchNotes$Desk" "lastPlaces" "[I"]
def wsX5_wouldBring_r4 : List Cond := [Cond.fieldLink RX0 21 "BranchNotes$Desk" "uses" "[I", Cond.fieldLink RX0 24 "BranchNotes$Desk" "rights" "[I", Cond.fieldLink RX0 27 "BranchNotes$Desk" "paths" "[I", Cond.fieldLink RX0 36 "BranchNotes$Desk" "clashes" "I", Cond.fieldLink RX0 40 "BranchNotes$Desk" "right" "I", Cond.methodLink RX5 199 yX3_goAll, Cond.instanceMethod yX3_goAll, Cond.selects RX3 yX3_goAll yX3_goAll, Cond.code yX3_goAll cX3_goAll 4 none, Cond.fieldLink RX3 103 "BranchNotes$Text" "stepCount" "I", Cond.fieldLink RX3 108 "BranchNotes$Text" "steps" "[I", Cond.methodLink RX3 111 yX3_go, Cond.instanceMethod yX3_go, Cond.selects RX3 yX3_go yX3_go, Cond.code yX3_go cX3_go 7 (some .boolean), Cond.methodLink RX3 83 yX3_deskSays, Cond.instanceMethod yX3_deskSays, Cond.selects RX3 yX3_deskSays yX3_deskSays, Cond.code yX3_deskSays cX3_deskSays 4 (some .boolean), Cond.fieldLink RX3 80 "BranchNotes$Desk" "strengths" "[I", Cond.methodLink RX3 76 yX0_noteFor, Cond.instanceMethod yX0_noteFor, Cond.selects RX0 yX0_noteFor yX0_noteFor, Cond.code yX0_noteFor cX0_noteFor 5 (some .int)]
def wsX5_wouldBring_r5 : List Cond := [Cond.methodLink RX0 50 yX0_pathFor, Cond.instanceMethod yX0_pathFor, Cond.selects RX0 yX0_pathFor yX0_pathFor, Cond.code yX0_pathFor cX0_pathFor 2 (some .int), Cond.methodLink RX3 87 yX3_countGuess, Cond.instanceMethod yX3_countGuess, Cond.selects RX3 yX3_countGuess yX3_countGuess, Cond.code yX3_countGuess cX3_countGuess 4 none, Cond.methodLink RX3 115 Lib.Math.max.name, Cond.static Lib.Math.max.name, Cond.initialized "java/lang/Math", Cond.code Lib.Math.max.name Lib.Math.max.code 2 (some .int), Cond.methodLink RX3 91 yX3_moveChooser, Cond.instanceMethod yX3_moveChooser, Cond.selects RX3 yX3_moveChooser yX3_moveChooser, Cond.code yX3_moveChooser cX3_moveChooser 3 none, Cond.methodLink RX3 120 Lib.Math.min.name, Cond.static Lib.Math.min.name, Cond.code Lib.Math.min.name Lib.Math.min.code 2 (some .int), Cond.methodLink RX3 95 yX3_noteFor, Cond.instanceMethod yX3_noteFor, Cond.selects RX3 yX3_noteFor yX3_noteFor, Cond.code yX3_noteFor cX3_noteFor 3 (some .int), Cond.methodLink RX3 96 yX0_use]
def wsX5_wouldBring_r6 : List Cond := [Cond.instanceMethod yX0_use, Cond.selects RX0 yX0_use yX0_use, Cond.code yX0_use cX0_use 5 none, Cond.methodLink RX0 54 Lib.Math.min.name, Cond.methodLink RX0 60 Lib.Math.max.name, Cond.methodLink RX3 100 yX0_changePath, Cond.instanceMethod yX0_changePath, Cond.selects RX0 yX0_changePath yX0_changePath, Cond.code yX0_changePath cX0_changePath 4 none]
def wsX5_wouldBring : List Cond := .code yX5_wouldBring cX5_wouldBring 1 (some .int) :: ((wsX5_wouldBring_r1 ++ (wsX5_wouldBring_r2 ++ (wsX5_wouldBring_r3 ++ (wsX5_wouldBring_r4 ++ (wsX5_wouldBring_r5 ++ wsX5_wouldBring_r6))))) ++ wsX50 ++ wsX30 ++ wsX40 ++ wsX00)
def wsX5_bestSetting_r1 : List Cond := [Cond.fieldLink RX5 10 "BranchNotes" "text" "LBranchNotes$Text;", Cond.constant RX5 65 (-99999), Cond.fieldLink RX5 253 "BranchNotes" "DESK_MOST" "[I", Cond.fieldLink RX5 23 "BranchNotes" "trial" "LBranchNotes$State;", Cond.fieldLink RX5 19 "BranchNotes" "state" "LBranchNotes$State;", Cond.fieldLink RX5 75 "BranchNotes$State" "points" "I", Cond.methodLink RX5 193 yX4_isPlayable, Cond.instanceMethod yX4_isPlayable, Cond.selects RX4 yX4_isPlayable yX4_isPlayable, Cond.initialized RX4, Cond.code yX4_isPlayable cX4_isPlayable 1 (some .boolean), Cond.constant RX4 29 (-99999), Cond.fieldLink RX4 30 "BranchNotes$Text" "stepCount" "I", Cond.methodLink RX4 25 yX4_read, Cond.instanceMethod yX4_read, Cond.selects RX4 yX4_read yX4_read, Cond.code yX4_read cX4_read 2 (some .int), Cond.fieldLink RX4 33 "BranchNotes$Text" "open" "I", Cond.fieldLink RX4 36 "BranchNotes$Text" "expected" "I", Cond.fieldLink RX4 21 "BranchNotes$Text" "length" "I", Cond.fieldLink RX4 11 "BranchNotes$Text" "codes" "[I", Cond.methodLink RX4 39 yX4_readCharacter, Cond.instanceMethod yX4_readCharacter, Cond.selects RX4 yX4_readCharacter yX4_readCharacter]
def wsX5_bestSetting_r2 : List Cond := [Cond.code yX4_readCharacter cX4_readCharacter 2 (some .boolean), Cond.methodLink RX4 43 yX4_readSign, Cond.instanceMethod yX4_readSign, Cond.selects RX4 yX4_readSign yX4_readSign, Cond.code yX4_readSign cX4_readSign 2 (some .boolean), Cond.fieldLink RX4 15 "BranchNotes$Text" "steps" "[I", Cond.fieldLink RX4 52 "BranchNotes$Text" "letter" "I", Cond.methodLink RX4 46 yX4_readDigit, Cond.instanceMethod yX4_readDigit, Cond.selects RX4 yX4_readDigit yX4_readDigit, Cond.code yX4_readDigit cX4_readDigit 2 (some .boolean), Cond.fieldLink RX4 18 "BranchNotes$Text" "starts" "[I", Cond.methodLink RX4 55 yX4_repeatFrom, Cond.instanceMethod yX4_repeatFrom, Cond.selects RX4 yX4_repeatFrom yX4_repeatFrom, Cond.code yX4_repeatFrom cX4_repeatFrom 6 none, Cond.methodLink RX4 49 yX4_readItem, Cond.instanceMethod yX4_readItem, Cond.selects RX4 yX4_readItem yX4_readItem, Cond.code yX4_readItem cX4_readItem 2 (some .boolean), Cond.methodLink RX5 212 yX3_copyFrom, Cond.instanceMethod yX3_copyFrom, Cond.selects RX3 yX3_copyFrom yX3_copyFrom, Cond.initialized RX3]
def wsX5_bestSetting_r3 : List Cond := [Cond.code yX3_copyFrom cX3_copyFrom 3 none, Cond.fieldLink RX3 9 "BranchNotes$State" "settings" "[I", Cond.methodLink RX3 38 arraycopyName, Cond.native arraycopyName, Cond.static arraycopyName, Cond.initialized "java/lang/System", Cond.fieldLink RX3 17 "BranchNotes$State" "desks" "[LBranchNotes$Desk;", Cond.fieldLink RX3 21 "BranchNotes$State" "choosers" "[I", Cond.fieldLink RX3 24 "BranchNotes$State" "goneAt" "[I", Cond.fieldLink RX3 27 "BranchNotes$State" "takenAt" "[I", Cond.fieldLink RX3 30 "BranchNotes$State" "rightAt" "[I", Cond.fieldLink RX3 48 "BranchNotes$State" "gone" "I", Cond.fieldLink RX3 52 "BranchNotes$State" "right" "I", Cond.fieldLink RX3 55 "BranchNotes$State" "points" "I", Cond.fieldLink RX3 58 "BranchNotes$State" "series" "I", Cond.fieldLink RX3 61 "BranchNotes$State" "longestSeries" "I", Cond.methodLink RX3 44 yX0_copyFrom, Cond.instanceMethod yX0_copyFrom, Cond.selects RX0 yX0_copyFrom yX0_copyFrom, Cond.initialized RX0, Cond.code yX0_copyFrom cX0_copyFrom 2 none, Cond.fieldLink RX0 9 "BranchNotes$Desk" "settings" "[I", Cond.methodLink RX0 30 arraycopyName, Cond.fieldLink RX0 15 "BranchNotes$Desk" "strengths" "[I"]
def wsX5_bestSetting_r4 : List Cond := [Cond.fieldLink RX0 18 "BranchNotes$Desk" "lastPlaces" "[I", Cond.fieldLink RX0 21 "BranchNotes$Desk" "uses" "[I", Cond.fieldLink RX0 24 "BranchNotes$Desk" "rights" "[I", Cond.fieldLink RX0 27 "BranchNotes$Desk" "paths" "[I", Cond.fieldLink RX0 36 "BranchNotes$Desk" "clashes" "I", Cond.fieldLink RX0 40 "BranchNotes$Desk" "right" "I", Cond.methodLink RX5 168 yX3_changeDesk, Cond.instanceMethod yX3_changeDesk, Cond.selects RX3 yX3_changeDesk yX3_changeDesk, Cond.code yX3_changeDesk cX3_changeDesk 4 none, Cond.fieldLink RX3 34 "BranchNotes$Desk" "settings" "[I", Cond.methodLink RX3 35 yX3_beginAnew, Cond.instanceMethod yX3_beginAnew, Cond.selects RX3 yX3_beginAnew yX3_beginAnew, Cond.code yX3_beginAnew cX3_beginAnew 2 none, Cond.methodLink RX3 64 yX0_beginAnew, Cond.instanceMethod yX0_beginAnew, Cond.selects RX0 yX0_beginAnew yX0_beginAnew, Cond.code yX0_beginAnew cX0_beginAnew 2 none, Cond.constant RX0 49 (-99999), Cond.methodLink RX0 43 yJ7_fill_53178, Cond.static yJ7_fill_53178, Cond.initialized RJ7, Cond.code yJ7_fill_53178 cJ7_fill_53178 4 none]
def wsX5_bestSetting_r5 : List Cond := [Cond.methodLink RX3 67 yJ7_fill_53178, Cond.methodLink RX5 199 yX3_goAll, Cond.instanceMethod yX3_goAll, Cond.selects RX3 yX3_goAll yX3_goAll, Cond.code yX3_goAll cX3_goAll 4 none, Cond.fieldLink RX3 103 "BranchNotes$Text" "stepCount" "I", Cond.fieldLink RX3 108 "BranchNotes$Text" "steps" "[I", Cond.methodLink RX3 111 yX3_go, Cond.instanceMethod yX3_go, Cond.selects RX3 yX3_go yX3_go, Cond.code yX3_go cX3_go 7 (some .boolean), Cond.methodLink RX3 83 yX3_deskSays, Cond.instanceMethod yX3_deskSays, Cond.selects RX3 yX3_deskSays yX3_deskSays, Cond.code yX3_deskSays cX3_deskSays 4 (some .boolean), Cond.fieldLink RX3 80 "BranchNotes$Desk" "strengths" "[I", Cond.methodLink RX3 76 yX0_noteFor, Cond.instanceMethod yX0_noteFor, Cond.selects RX0 yX0_noteFor yX0_noteFor, Cond.code yX0_noteFor cX0_noteFor 5 (some .int), Cond.methodLink RX0 50 yX0_pathFor, Cond.instanceMethod yX0_pathFor, Cond.selects RX0 yX0_pathFor yX0_pathFor, Cond.code yX0_pathFor cX0_pathFor 2 (some .int)]
def wsX5_bestSetting_r6 : List Cond := [Cond.methodLink RX3 87 yX3_countGuess, Cond.instanceMethod yX3_countGuess, Cond.selects RX3 yX3_countGuess yX3_countGuess, Cond.code yX3_countGuess cX3_countGuess 4 none, Cond.methodLink RX3 115 Lib.Math.max.name, Cond.static Lib.Math.max.name, Cond.initialized "java/lang/Math", Cond.code Lib.Math.max.name Lib.Math.max.code 2 (some .int), Cond.methodLink RX3 91 yX3_moveChooser, Cond.instanceMethod yX3_moveChooser, Cond.selects RX3 yX3_moveChooser yX3_moveChooser, Cond.code yX3_moveChooser cX3_moveChooser 3 none, Cond.methodLink RX3 120 Lib.Math.min.name, Cond.static Lib.Math.min.name, Cond.code Lib.Math.min.name Lib.Math.min.code 2 (some .int), Cond.methodLink RX3 95 yX3_noteFor, Cond.instanceMethod yX3_noteFor, Cond.selects RX3 yX3_noteFor yX3_noteFor, Cond.code yX3_noteFor cX3_noteFor 3 (some .int), Cond.methodLink RX3 96 yX0_use, Cond.instanceMethod yX0_use, Cond.selects RX0 yX0_use yX0_use, Cond.code yX0_use cX0_use 5 none, Cond.methodLink RX0 54 Lib.Math.min.name]
def wsX5_bestSetting_r7 : List Cond := [Cond.methodLink RX0 60 Lib.Math.max.name, Cond.methodLink RX3 100 yX0_changePath, Cond.instanceMethod yX0_changePath, Cond.selects RX0 yX0_changePath yX0_changePath, Cond.code yX0_changePath cX0_changePath 4 none]
def wsX5_bestSetting : List Cond := .code yX5_bestSetting cX5_bestSetting 6 (some .int) :: ((wsX5_bestSetting_r1 ++ (wsX5_bestSetting_r2 ++ (wsX5_bestSetting_r3 ++ (wsX5_bestSetting_r4 ++ (wsX5_bestSetting_r5 ++ (wsX5_bestSetting_r6 ++ wsX5_bestSetting_r7)))))) ++ wsX50 ++ wsX30 ++ wsX40 ++ wsX00)
def wsX5_bestMixing_r1 : List Cond := [Cond.methodLink RX5 99 yX5_checkDesk, Cond.static yX5_checkDesk, Cond.initialized RX5, Cond.code yX5_checkDesk cX5_checkDesk 1 none, Cond.classLink RX5 265 "java/lang/IndexOutOfBoundsException", Cond.initialized "java/lang/IndexOutOfBoundsException", Cond.methodLink RX5 262 yX5_isDesk, Cond.static yX5_isDesk, Cond.code yX5_isDesk cX5_isDesk 1 (some .boolean), Cond.methodLink RX5 215 yX5_bestSetting, Cond.instanceMethod yX5_bestSetting, Cond.selects RX5 yX5_bestSetting yX5_bestSetting, Cond.code yX5_bestSetting cX5_bestSetting 6 (some .int), Cond.fieldLink RX5 10 "BranchNotes" "text" "LBranchNotes$Text;", Cond.constant RX5 65 (-99999), Cond.fieldLink RX5 253 "BranchNotes" "DESK_MOST" "[I", Cond.fieldLink RX5 23 "BranchNotes" "trial" "LBranchNotes$State;", Cond.fieldLink RX5 19 "BranchNotes" "state" "LBranchNotes$State;", Cond.fieldLink RX5 75 "BranchNotes$State" "points" "I", Cond.methodLink RX5 193 yX4_isPlayable, Cond.instanceMethod yX4_isPlayable, Cond.selects RX4 yX4_isPlayable yX4_isPlayable, Cond.initialized RX4, Cond.code yX4_isPlayable cX4_isPlayable 1 (some .boolean)]
def wsX5_bestMixing_r2 : List Cond := [Cond.constant RX4 29 (-99999), Cond.fieldLink RX4 30 "BranchNotes$Text" "stepCount" "I", Cond.methodLink RX4 25 yX4_read, Cond.instanceMethod yX4_read, Cond.selects RX4 yX4_read yX4_read, Cond.code yX4_read cX4_read 2 (some .int), Cond.fieldLink RX4 33 "BranchNotes$Text" "open" "I", Cond.fieldLink RX4 36 "BranchNotes$Text" "expected" "I", Cond.fieldLink RX4 21 "BranchNotes$Text" "length" "I", Cond.fieldLink RX4 11 "BranchNotes$Text" "codes" "[I", Cond.methodLink RX4 39 yX4_readCharacter, Cond.instanceMethod yX4_readCharacter, Cond.selects RX4 yX4_readCharacter yX4_readCharacter, Cond.code yX4_readCharacter cX4_readCharacter 2 (some .boolean), Cond.methodLink RX4 43 yX4_readSign, Cond.instanceMethod yX4_readSign, Cond.selects RX4 yX4_readSign yX4_readSign, Cond.code yX4_readSign cX4_readSign 2 (some .boolean), Cond.fieldLink RX4 15 "BranchNotes$Text" "steps" "[I", Cond.fieldLink RX4 52 "BranchNotes$Text" "letter" "I", Cond.methodLink RX4 46 yX4_readDigit, Cond.instanceMethod yX4_readDigit, Cond.selects RX4 yX4_readDigit yX4_readDigit, Cond.code yX4_readDigit cX4_readDigit 2 (some .boolean)]
def wsX5_bestMixing_r3 : List Cond := [Cond.fieldLink RX4 18 "BranchNotes$Text" "starts" "[I", Cond.methodLink RX4 55 yX4_repeatFrom, Cond.instanceMethod yX4_repeatFrom, Cond.selects RX4 yX4_repeatFrom yX4_repeatFrom, Cond.code yX4_repeatFrom cX4_repeatFrom 6 none, Cond.methodLink RX4 49 yX4_readItem, Cond.instanceMethod yX4_readItem, Cond.selects RX4 yX4_readItem yX4_readItem, Cond.code yX4_readItem cX4_readItem 2 (some .boolean), Cond.methodLink RX5 212 yX3_copyFrom, Cond.instanceMethod yX3_copyFrom, Cond.selects RX3 yX3_copyFrom yX3_copyFrom, Cond.initialized RX3, Cond.code yX3_copyFrom cX3_copyFrom 3 none, Cond.fieldLink RX3 9 "BranchNotes$State" "settings" "[I", Cond.methodLink RX3 38 arraycopyName, Cond.native arraycopyName, Cond.static arraycopyName, Cond.initialized "java/lang/System", Cond.fieldLink RX3 17 "BranchNotes$State" "desks" "[LBranchNotes$Desk;", Cond.fieldLink RX3 21 "BranchNotes$State" "choosers" "[I", Cond.fieldLink RX3 24 "BranchNotes$State" "goneAt" "[I", Cond.fieldLink RX3 27 "BranchNotes$State" "takenAt" "[I", Cond.fieldLink RX3 30 "BranchNotes$State" "rightAt" "[I"]
def wsX5_bestMixing_r4 : List Cond := [Cond.fieldLink RX3 48 "BranchNotes$State" "gone" "I", Cond.fieldLink RX3 52 "BranchNotes$State" "right" "I", Cond.fieldLink RX3 55 "BranchNotes$State" "points" "I", Cond.fieldLink RX3 58 "BranchNotes$State" "series" "I", Cond.fieldLink RX3 61 "BranchNotes$State" "longestSeries" "I", Cond.methodLink RX3 44 yX0_copyFrom, Cond.instanceMethod yX0_copyFrom, Cond.selects RX0 yX0_copyFrom yX0_copyFrom, Cond.initialized RX0, Cond.code yX0_copyFrom cX0_copyFrom 2 none, Cond.fieldLink RX0 9 "BranchNotes$Desk" "settings" "[I", Cond.methodLink RX0 30 arraycopyName, Cond.fieldLink RX0 15 "BranchNotes$Desk" "strengths" "[I", Cond.fieldLink RX0 18 "BranchNotes$Desk" "lastPlaces" "[I", Cond.fieldLink RX0 21 "BranchNotes$Desk" "uses" "[I", Cond.fieldLink RX0 24 "BranchNotes$Desk" "rights" "[I", Cond.fieldLink RX0 27 "BranchNotes$Desk" "paths" "[I", Cond.fieldLink RX0 36 "BranchNotes$Desk" "clashes" "I", Cond.fieldLink RX0 40 "BranchNotes$Desk" "right" "I", Cond.methodLink RX5 168 yX3_changeDesk, Cond.instanceMethod yX3_changeDesk, Cond.selects RX3 yX3_changeDesk yX3_changeDesk, Cond.code yX3_changeDesk cX3_changeDesk 4 none, Cond.fieldLink RX3 34 "BranchNotes$Desk" "settings" "[I"]
def wsX5_bestMixing_r5 : List Cond := [Cond.methodLink RX3 35 yX3_beginAnew, Cond.instanceMethod yX3_beginAnew, Cond.selects RX3 yX3_beginAnew yX3_beginAnew, Cond.code yX3_beginAnew cX3_beginAnew 2 none, Cond.methodLink RX3 64 yX0_beginAnew, Cond.instanceMethod yX0_beginAnew, Cond.selects RX0 yX0_beginAnew yX0_beginAnew, Cond.code yX0_beginAnew cX0_beginAnew 2 none, Cond.constant RX0 49 (-99999), Cond.methodLink RX0 43 yJ7_fill_53178, Cond.static yJ7_fill_53178, Cond.initialized RJ7, Cond.code yJ7_fill_53178 cJ7_fill_53178 4 none, Cond.methodLink RX3 67 yJ7_fill_53178, Cond.methodLink RX5 199 yX3_goAll, Cond.instanceMethod yX3_goAll, Cond.selects RX3 yX3_goAll yX3_goAll, Cond.code yX3_goAll cX3_goAll 4 none, Cond.fieldLink RX3 103 "BranchNotes$Text" "stepCount" "I", Cond.fieldLink RX3 108 "BranchNotes$Text" "steps" "[I", Cond.methodLink RX3 111 yX3_go, Cond.instanceMethod yX3_go, Cond.selects RX3 yX3_go yX3_go, Cond.code yX3_go cX3_go 7 (some .boolean)]
def wsX5_bestMixing_r6 : List Cond := [Cond.methodLink RX3 83 yX3_deskSays, Cond.instanceMethod yX3_deskSays, Cond.selects RX3 yX3_deskSays yX3_deskSays, Cond.code yX3_deskSays cX3_deskSays 4 (some .boolean), Cond.fieldLink RX3 80 "BranchNotes$Desk" "strengths" "[I", Cond.methodLink RX3 76 yX0_noteFor, Cond.instanceMethod yX0_noteFor, Cond.selects RX0 yX0_noteFor yX0_noteFor, Cond.code yX0_noteFor cX0_noteFor 5 (some .int), Cond.methodLink RX0 50 yX0_pathFor, Cond.instanceMethod yX0_pathFor, Cond.selects RX0 yX0_pathFor yX0_pathFor, Cond.code yX0_pathFor cX0_pathFor 2 (some .int), Cond.methodLink RX3 87 yX3_countGuess, Cond.instanceMethod yX3_countGuess, Cond.selects RX3 yX3_countGuess yX3_countGuess, Cond.code yX3_countGuess cX3_countGuess 4 none, Cond.methodLink RX3 115 Lib.Math.max.name, Cond.static Lib.Math.max.name, Cond.initialized "java/lang/Math", Cond.code Lib.Math.max.name Lib.Math.max.code 2 (some .int), Cond.methodLink RX3 91 yX3_moveChooser, Cond.instanceMethod yX3_moveChooser, Cond.selects RX3 yX3_moveChooser yX3_moveChooser]
def wsX5_bestMixing_r7 : List Cond := [Cond.code yX3_moveChooser cX3_moveChooser 3 none, Cond.methodLink RX3 120 Lib.Math.min.name, Cond.static Lib.Math.min.name, Cond.code Lib.Math.min.name Lib.Math.min.code 2 (some .int), Cond.methodLink RX3 95 yX3_noteFor, Cond.instanceMethod yX3_noteFor, Cond.selects RX3 yX3_noteFor yX3_noteFor, Cond.code yX3_noteFor cX3_noteFor 3 (some .int), Cond.methodLink RX3 96 yX0_use, Cond.instanceMethod yX0_use, Cond.selects RX0 yX0_use yX0_use, Cond.code yX0_use cX0_use 5 none, Cond.methodLink RX0 54 Lib.Math.min.name, Cond.methodLink RX0 60 Lib.Math.max.name, Cond.methodLink RX3 100 yX0_changePath, Cond.instanceMethod yX0_changePath, Cond.selects RX0 yX0_changePath yX0_changePath, Cond.code yX0_changePath cX0_changePath 4 none]
def wsX5_bestMixing : List Cond := .code yX5_bestMixing cX5_bestMixing 2 (some .int) :: ((wsX5_bestMixing_r1 ++ (wsX5_bestMixing_r2 ++ (wsX5_bestMixing_r3 ++ (wsX5_bestMixing_r4 ++ (wsX5_bestMixing_r5 ++ (wsX5_bestMixing_r6 ++ wsX5_bestMixing_r7)))))) ++ wsX50 ++ wsX30 ++ wsX40 ++ wsX00 ++ (vx_atS RX5 269 "java/lang/IndexOutOfBoundsException" ["java/lang/RuntimeException", "java/lang/Exception"]).filter goodWord)
def wsX5_bestLength_r1 : List Cond := [Cond.methodLink RX5 99 yX5_checkDesk, Cond.static yX5_checkDesk, Cond.initialized RX5, Cond.code yX5_checkDesk cX5_checkDesk 1 none, Cond.classLink RX5 265 "java/lang/IndexOutOfBoundsException", Cond.initialized "java/lang/IndexOutOfBoundsException", Cond.methodLink RX5 262 yX5_isDesk, Cond.static yX5_isDesk, Cond.code yX5_isDesk cX5_isDesk 1 (some .boolean), Cond.methodLink RX5 215 yX5_bestSetting, Cond.instanceMethod yX5_bestSetting, Cond.selects RX5 yX5_bestSetting yX5_bestSetting, Cond.code yX5_bestSetting cX5_bestSetting 6 (some .int), Cond.fieldLink RX5 10 "BranchNotes" "text" "LBranchNotes$Text;", Cond.constant RX5 65 (-99999), Cond.fieldLink RX5 253 "BranchNotes" "DESK_MOST" "[I", Cond.fieldLink RX5 23 "BranchNotes" "trial" "LBranchNotes$State;", Cond.fieldLink RX5 19 "BranchNotes" "state" "LBranchNotes$State;", Cond.fieldLink RX5 75 "BranchNotes$State" "points" "I", Cond.methodLink RX5 193 yX4_isPlayable, Cond.instanceMethod yX4_isPlayable, Cond.selects RX4 yX4_isPlayable yX4_isPlayable, Cond.initialized RX4, Cond.code yX4_isPlayable cX4_isPlayable 1 (some .boolean)]
def wsX5_bestLength_r2 : List Cond := [Cond.constant RX4 29 (-99999), Cond.fieldLink RX4 30 "BranchNotes$Text" "stepCount" "I", Cond.methodLink RX4 25 yX4_read, Cond.instanceMethod yX4_read, Cond.selects RX4 yX4_read yX4_read, Cond.code yX4_read cX4_read 2 (some .int), Cond.fieldLink RX4 33 "BranchNotes$Text" "open" "I", Cond.fieldLink RX4 36 "BranchNotes$Text" "expected" "I", Cond.fieldLink RX4 21 "BranchNotes$Text" "length" "I", Cond.fieldLink RX4 11 "BranchNotes$Text" "codes" "[I", Cond.methodLink RX4 39 yX4_readCharacter, Cond.instanceMethod yX4_readCharacter, Cond.selects RX4 yX4_readCharacter yX4_readCharacter, Cond.code yX4_readCharacter cX4_readCharacter 2 (some .boolean), Cond.methodLink RX4 43 yX4_readSign, Cond.instanceMethod yX4_readSign, Cond.selects RX4 yX4_readSign yX4_readSign, Cond.code yX4_readSign cX4_readSign 2 (some .boolean), Cond.fieldLink RX4 15 "BranchNotes$Text" "steps" "[I", Cond.fieldLink RX4 52 "BranchNotes$Text" "letter" "I", Cond.methodLink RX4 46 yX4_readDigit, Cond.instanceMethod yX4_readDigit, Cond.selects RX4 yX4_readDigit yX4_readDigit, Cond.code yX4_readDigit cX4_readDigit 2 (some .boolean)]
def wsX5_bestLength_r3 : List Cond := [Cond.fieldLink RX4 18 "BranchNotes$Text" "starts" "[I", Cond.methodLink RX4 55 yX4_repeatFrom, Cond.instanceMethod yX4_repeatFrom, Cond.selects RX4 yX4_repeatFrom yX4_repeatFrom, Cond.code yX4_repeatFrom cX4_repeatFrom 6 none, Cond.methodLink RX4 49 yX4_readItem, Cond.instanceMethod yX4_readItem, Cond.selects RX4 yX4_readItem yX4_readItem, Cond.code yX4_readItem cX4_readItem 2 (some .boolean), Cond.methodLink RX5 212 yX3_copyFrom, Cond.instanceMethod yX3_copyFrom, Cond.selects RX3 yX3_copyFrom yX3_copyFrom, Cond.initialized RX3, Cond.code yX3_copyFrom cX3_copyFrom 3 none, Cond.fieldLink RX3 9 "BranchNotes$State" "settings" "[I", Cond.methodLink RX3 38 arraycopyName, Cond.native arraycopyName, Cond.static arraycopyName, Cond.initialized "java/lang/System", Cond.fieldLink RX3 17 "BranchNotes$State" "desks" "[LBranchNotes$Desk;", Cond.fieldLink RX3 21 "BranchNotes$State" "choosers" "[I", Cond.fieldLink RX3 24 "BranchNotes$State" "goneAt" "[I", Cond.fieldLink RX3 27 "BranchNotes$State" "takenAt" "[I", Cond.fieldLink RX3 30 "BranchNotes$State" "rightAt" "[I"]
def wsX5_bestLength_r4 : List Cond := [Cond.fieldLink RX3 48 "BranchNotes$State" "gone" "I", Cond.fieldLink RX3 52 "BranchNotes$State" "right" "I", Cond.fieldLink RX3 55 "BranchNotes$State" "points" "I", Cond.fieldLink RX3 58 "BranchNotes$State" "series" "I", Cond.fieldLink RX3 61 "BranchNotes$State" "longestSeries" "I", Cond.methodLink RX3 44 yX0_copyFrom, Cond.instanceMethod yX0_copyFrom, Cond.selects RX0 yX0_copyFrom yX0_copyFrom, Cond.initialized RX0, Cond.code yX0_copyFrom cX0_copyFrom 2 none, Cond.fieldLink RX0 9 "BranchNotes$Desk" "settings" "[I", Cond.methodLink RX0 30 arraycopyName, Cond.fieldLink RX0 15 "BranchNotes$Desk" "strengths" "[I", Cond.fieldLink RX0 18 "BranchNotes$Desk" "lastPlaces" "[I", Cond.fieldLink RX0 21 "BranchNotes$Desk" "uses" "[I", Cond.fieldLink RX0 24 "BranchNotes$Desk" "rights" "[I", Cond.fieldLink RX0 27 "BranchNotes$Desk" "paths" "[I", Cond.fieldLink RX0 36 "BranchNotes$Desk" "clashes" "I", Cond.fieldLink RX0 40 "BranchNotes$Desk" "right" "I", Cond.methodLink RX5 168 yX3_changeDesk, Cond.instanceMethod yX3_changeDesk, Cond.selects RX3 yX3_changeDesk yX3_changeDesk, Cond.code yX3_changeDesk cX3_changeDesk 4 none, Cond.fieldLink RX3 34 "BranchNotes$Desk" "settings" "[I"]
def wsX5_bestLength_r5 : List Cond := [Cond.methodLink RX3 35 yX3_beginAnew, Cond.instanceMethod yX3_beginAnew, Cond.selects RX3 yX3_beginAnew yX3_beginAnew, Cond.code yX3_beginAnew cX3_beginAnew 2 none, Cond.methodLink RX3 64 yX0_beginAnew, Cond.instanceMethod yX0_beginAnew, Cond.selects RX0 yX0_beginAnew yX0_beginAnew, Cond.code yX0_beginAnew cX0_beginAnew 2 none, Cond.constant RX0 49 (-99999), Cond.methodLink RX0 43 yJ7_fill_53178, Cond.static yJ7_fill_53178, Cond.initialized RJ7, Cond.code yJ7_fill_53178 cJ7_fill_53178 4 none, Cond.methodLink RX3 67 yJ7_fill_53178, Cond.methodLink RX5 199 yX3_goAll, Cond.instanceMethod yX3_goAll, Cond.selects RX3 yX3_goAll yX3_goAll, Cond.code yX3_goAll cX3_goAll 4 none, Cond.fieldLink RX3 103 "BranchNotes$Text" "stepCount" "I", Cond.fieldLink RX3 108 "BranchNotes$Text" "steps" "[I", Cond.methodLink RX3 111 yX3_go, Cond.instanceMethod yX3_go, Cond.selects RX3 yX3_go yX3_go, Cond.code yX3_go cX3_go 7 (some .boolean)]
def wsX5_bestLength_r6 : List Cond := [Cond.methodLink RX3 83 yX3_deskSays, Cond.instanceMethod yX3_deskSays, Cond.selects RX3 yX3_deskSays yX3_deskSays, Cond.code yX3_deskSays cX3_deskSays 4 (some .boolean), Cond.fieldLink RX3 80 "BranchNotes$Desk" "strengths" "[I", Cond.methodLink RX3 76 yX0_noteFor, Cond.instanceMethod yX0_noteFor, Cond.selects RX0 yX0_noteFor yX0_noteFor, Cond.code yX0_noteFor cX0_noteFor 5 (some .int), Cond.methodLink RX0 50 yX0_pathFor, Cond.instanceMethod yX0_pathFor, Cond.selects RX0 yX0_pathFor yX0_pathFor, Cond.code yX0_pathFor cX0_pathFor 2 (some .int), Cond.methodLink RX3 87 yX3_countGuess, Cond.instanceMethod yX3_countGuess, Cond.selects RX3 yX3_countGuess yX3_countGuess, Cond.code yX3_countGuess cX3_countGuess 4 none, Cond.methodLink RX3 115 Lib.Math.max.name, Cond.static Lib.Math.max.name, Cond.initialized "java/lang/Math", Cond.code Lib.Math.max.name Lib.Math.max.code 2 (some .int), Cond.methodLink RX3 91 yX3_moveChooser, Cond.instanceMethod yX3_moveChooser, Cond.selects RX3 yX3_moveChooser yX3_moveChooser]
def wsX5_bestLength_r7 : List Cond := [Cond.code yX3_moveChooser cX3_moveChooser 3 none, Cond.methodLink RX3 120 Lib.Math.min.name, Cond.static Lib.Math.min.name, Cond.code Lib.Math.min.name Lib.Math.min.code 2 (some .int), Cond.methodLink RX3 95 yX3_noteFor, Cond.instanceMethod yX3_noteFor, Cond.selects RX3 yX3_noteFor yX3_noteFor, Cond.code yX3_noteFor cX3_noteFor 3 (some .int), Cond.methodLink RX3 96 yX0_use, Cond.instanceMethod yX0_use, Cond.selects RX0 yX0_use yX0_use, Cond.code yX0_use cX0_use 5 none, Cond.methodLink RX0 54 Lib.Math.min.name, Cond.methodLink RX0 60 Lib.Math.max.name, Cond.methodLink RX3 100 yX0_changePath, Cond.instanceMethod yX0_changePath, Cond.selects RX0 yX0_changePath yX0_changePath, Cond.code yX0_changePath cX0_changePath 4 none]
def wsX5_bestLength : List Cond := .code yX5_bestLength cX5_bestLength 2 (some .int) :: ((wsX5_bestLength_r1 ++ (wsX5_bestLength_r2 ++ (wsX5_bestLength_r3 ++ (wsX5_bestLength_r4 ++ (wsX5_bestLength_r5 ++ (wsX5_bestLength_r6 ++ wsX5_bestLength_r7)))))) ++ wsX50 ++ wsX30 ++ wsX40 ++ wsX00 ++ (vx_atS RX5 269 "java/lang/IndexOutOfBoundsException" ["java/lang/RuntimeException", "java/lang/Exception"]).filter goodWord)
def wsX5_sharing_r1 : List Cond := [Cond.fieldLink RX5 19 "BranchNotes" "state" "LBranchNotes$State;", Cond.methodLink RX5 99 yX5_checkDesk, Cond.static yX5_checkDesk, Cond.initialized RX5, Cond.code yX5_checkDesk cX5_checkDesk 1 none, Cond.classLink RX5 265 "java/lang/IndexOutOfBoundsException", Cond.initialized "java/lang/IndexOutOfBoundsException", Cond.methodLink RX5 262 yX5_isDesk, Cond.static yX5_isDesk, Cond.code yX5_isDesk cX5_isDesk 1 (some .boolean), Cond.methodLink RX5 127 yX5_checkPlace, Cond.static yX5_checkPlace, Cond.code yX5_checkPlace cX5_checkPlace 1 none, Cond.methodLink RX5 270 yX5_isPlace, Cond.static yX5_isPlace, Cond.code yX5_isPlace cX5_isPlace 1 (some .boolean), Cond.methodLink RX5 151 yX3_noteFor, Cond.instanceMethod yX3_noteFor, Cond.selects RX3 yX3_noteFor yX3_noteFor, Cond.initialized RX3, Cond.code yX3_noteFor cX3_noteFor 3 (some .int), Cond.fieldLink RX3 17 "BranchNotes$State" "desks" "[LBranchNotes$Desk;", Cond.fieldLink RX3 9 "BranchNotes$State" "settings" "[I", Cond.methodLink RX3 76 yX0_noteFor]
def wsX5_sharing_r2 : List Cond := [Cond.instanceMethod yX0_noteFor, Cond.selects RX0 yX0_noteFor yX0_noteFor, Cond.initialized RX0, Cond.code yX0_noteFor cX0_noteFor 5 (some .int), Cond.fieldLink RX0 9 "BranchNotes$Desk" "settings" "[I", Cond.methodLink RX0 50 yX0_pathFor, Cond.instanceMethod yX0_pathFor, Cond.selects RX0 yX0_pathFor yX0_pathFor, Cond.code yX0_pathFor cX0_pathFor 2 (some .int), Cond.fieldLink RX0 27 "BranchNotes$Desk" "paths" "[I"]
def wsX5_sharing : List Cond := .code yX5_sharing cX5_sharing 6 (some .int) :: ((wsX5_sharing_r1 ++ wsX5_sharing_r2) ++ wsX50 ++ wsX30 ++ wsX00 ++ (vx_atS RX5 269 "java/lang/IndexOutOfBoundsException" ["java/lang/RuntimeException", "java/lang/Exception"]).filter goodWord)
def wsX5_holds_r1 : List Cond := [Cond.fieldLink RX5 23 "BranchNotes" "trial" "LBranchNotes$State;", Cond.fieldLink RX5 19 "BranchNotes" "state" "LBranchNotes$State;", Cond.methodLink RX5 127 yX5_checkPlace, Cond.static yX5_checkPlace, Cond.initialized RX5, Cond.code yX5_checkPlace cX5_checkPlace 1 none, Cond.classLink RX5 265 "java/lang/IndexOutOfBoundsException", Cond.initialized "java/lang/IndexOutOfBoundsException", Cond.methodLink RX5 270 yX5_isPlace, Cond.static yX5_isPlace, Cond.code yX5_isPlace cX5_isPlace 1 (some .boolean), Cond.methodLink RX5 212 yX3_copyFrom, Cond.instanceMethod yX3_copyFrom, Cond.selects RX3 yX3_copyFrom yX3_copyFrom, Cond.initialized RX3, Cond.code yX3_copyFrom cX3_copyFrom 3 none, Cond.fieldLink RX3 9 "BranchNotes$State" "settings" "[I", Cond.methodLink RX3 38 arraycopyName, Cond.native arraycopyName, Cond.static arraycopyName, Cond.initialized "java/lang/System", Cond.fieldLink RX3 17 "BranchNotes$State" "desks" "[LBranchNotes$Desk;", Cond.fieldLink RX3 21 "BranchNotes$State" "choosers" "[I", Cond.fieldLink RX3 24 "BranchNotes$State" "goneAt" "[I"]
def wsX5_holds_r2 : List Cond := [Cond.fieldLink RX3 27 "BranchNotes$State" "takenAt" "[I", Cond.fieldLink RX3 30 "BranchNotes$State" "rightAt" "[I", Cond.fieldLink RX3 48 "BranchNotes$State" "gone" "I", Cond.fieldLink RX3 52 "BranchNotes$State" "right" "I", Cond.fieldLink RX3 55 "BranchNotes$State" "points" "I", Cond.fieldLink RX3 58 "BranchNotes$State" "series" "I", Cond.fieldLink RX3 61 "BranchNotes$State" "longestSeries" "I", Cond.methodLink RX3 44 yX0_copyFrom, Cond.instanceMethod yX0_copyFrom, Cond.selects RX0 yX0_copyFrom yX0_copyFrom, Cond.initialized RX0, Cond.code yX0_copyFrom cX0_copyFrom 2 none, Cond.fieldLink RX0 9 "BranchNotes$Desk" "settings" "[I", Cond.methodLink RX0 30 arraycopyName, Cond.fieldLink RX0 15 "BranchNotes$Desk" "strengths" "[I", Cond.fieldLink RX0 18 "BranchNotes$Desk" "lastPlaces" "[I", Cond.fieldLink RX0 21 "BranchNotes$Desk" "uses" "[I", Cond.fieldLink RX0 24 "BranchNotes$Desk" "rights" "[I", Cond.fieldLink RX0 27 "BranchNotes$Desk" "paths" "[I", Cond.fieldLink RX0 36 "BranchNotes$Desk" "clashes" "I", Cond.fieldLink RX0 40 "BranchNotes$Desk" "right" "I", Cond.methodLink RX5 142 yX3_guessFor, Cond.instanceMethod yX3_guessFor, Cond.selects RX3 yX3_guessFor yX3_guessFor]
def wsX5_holds_r3 : List Cond := [Cond.code yX3_guessFor cX3_guessFor 2 (some .boolean), Cond.methodLink RX3 83 yX3_deskSays, Cond.instanceMethod yX3_deskSays, Cond.selects RX3 yX3_deskSays yX3_deskSays, Cond.code yX3_deskSays cX3_deskSays 4 (some .boolean), Cond.fieldLink RX3 80 "BranchNotes$Desk" "strengths" "[I", Cond.methodLink RX3 76 yX0_noteFor, Cond.instanceMethod yX0_noteFor, Cond.selects RX0 yX0_noteFor yX0_noteFor, Cond.code yX0_noteFor cX0_noteFor 5 (some .int), Cond.methodLink RX0 50 yX0_pathFor, Cond.instanceMethod yX0_pathFor, Cond.selects RX0 yX0_pathFor yX0_pathFor, Cond.code yX0_pathFor cX0_pathFor 2 (some .int), Cond.methodLink RX5 189 yX3_go, Cond.instanceMethod yX3_go, Cond.selects RX3 yX3_go yX3_go, Cond.code yX3_go cX3_go 7 (some .boolean), Cond.methodLink RX3 87 yX3_countGuess, Cond.instanceMethod yX3_countGuess, Cond.selects RX3 yX3_countGuess yX3_countGuess, Cond.code yX3_countGuess cX3_countGuess 4 none, Cond.methodLink RX3 115 Lib.Math.max.name, Cond.static Lib.Math.max.name]
def wsX5_holds_r4 : List Cond := [Cond.initialized "java/lang/Math", Cond.code Lib.Math.max.name Lib.Math.max.code 2 (some .int), Cond.methodLink RX3 91 yX3_moveChooser, Cond.instanceMethod yX3_moveChooser, Cond.selects RX3 yX3_moveChooser yX3_moveChooser, Cond.code yX3_moveChooser cX3_moveChooser 3 none, Cond.methodLink RX3 120 Lib.Math.min.name, Cond.static Lib.Math.min.name, Cond.code Lib.Math.min.name Lib.Math.min.code 2 (some .int), Cond.methodLink RX3 95 yX3_noteFor, Cond.instanceMethod yX3_noteFor, Cond.selects RX3 yX3_noteFor yX3_noteFor, Cond.code yX3_noteFor cX3_noteFor 3 (some .int), Cond.methodLink RX3 96 yX0_use, Cond.instanceMethod yX0_use, Cond.selects RX0 yX0_use yX0_use, Cond.code yX0_use cX0_use 5 none, Cond.methodLink RX0 54 Lib.Math.min.name, Cond.methodLink RX0 60 Lib.Math.max.name, Cond.methodLink RX3 100 yX0_changePath, Cond.instanceMethod yX0_changePath, Cond.selects RX0 yX0_changePath yX0_changePath, Cond.code yX0_changePath cX0_changePath 4 none]
def wsX5_holds : List Cond := .code yX5_holds cX5_holds 4 (some .int) :: ((wsX5_holds_r1 ++ (wsX5_holds_r2 ++ (wsX5_holds_r3 ++ wsX5_holds_r4))) ++ wsX50 ++ wsX30 ++ wsX00 ++ (vx_atS RX5 269 "java/lang/IndexOutOfBoundsException" ["java/lang/RuntimeException", "java/lang/Exception"]).filter goodWord)
def wsX5_worst : List Cond := .code yX5_worst cX5_worst 5 (some .int) :: ([.constant RX5 65 (-99999), .fieldLink RX5 19 "BranchNotes" "state" "LBranchNotes$State;", .fieldLink RX5 130 "BranchNotes$State" "goneAt" "[I", .fieldLink RX5 136 "BranchNotes$State" "rightAt" "[I"] ++ wsX50 ++ wsX30)
def wsX5_withoutLastGroups : List Cond := .code yX5_withoutLastGroups cX5_withoutLastGroups 6 (some .long) :: ([.constantLong RX5 226 (100000)])
def wsX5_runScript_r1 : List Cond := [Cond.classLink RX5 41 "java/lang/IllegalArgumentException", Cond.initialized "java/lang/IllegalArgumentException", Cond.fieldLink RX5 23 "BranchNotes" "trial" "LBranchNotes$State;", Cond.fieldLink RX5 19 "BranchNotes" "state" "LBranchNotes$State;", Cond.constantLong RX5 226 (100000), Cond.constant RX5 65 (-99999), Cond.methodLink RX5 220 yX5_withoutLastGroups, Cond.static yX5_withoutLastGroups, Cond.initialized RX5, Cond.code yX5_withoutLastGroups cX5_withoutLastGroups 6 (some .long), Cond.methodLink RX5 212 yX3_copyFrom, Cond.instanceMethod yX3_copyFrom, Cond.selects RX3 yX3_copyFrom yX3_copyFrom, Cond.initialized RX3, Cond.code yX3_copyFrom cX3_copyFrom 3 none, Cond.fieldLink RX3 9 "BranchNotes$State" "settings" "[I", Cond.methodLink RX3 38 arraycopyName, Cond.native arraycopyName, Cond.static arraycopyName, Cond.initialized "java/lang/System", Cond.fieldLink RX3 17 "BranchNotes$State" "desks" "[LBranchNotes$Desk;", Cond.fieldLink RX3 21 "BranchNotes$State" "choosers" "[I", Cond.fieldLink RX3 24 "BranchNotes$State" "goneAt" "[I", Cond.fieldLink RX3 27 "BranchNotes$State" "takenAt" "[I"]
def wsX5_runScript_r2 : List Cond := [Cond.fieldLink RX3 30 "BranchNotes$State" "rightAt" "[I", Cond.fieldLink RX3 48 "BranchNotes$State" "gone" "I", Cond.fieldLink RX3 52 "BranchNotes$State" "right" "I", Cond.fieldLink RX3 55 "BranchNotes$State" "points" "I", Cond.fieldLink RX3 58 "BranchNotes$State" "series" "I", Cond.fieldLink RX3 61 "BranchNotes$State" "longestSeries" "I", Cond.methodLink RX3 44 yX0_copyFrom, Cond.instanceMethod yX0_copyFrom, Cond.selects RX0 yX0_copyFrom yX0_copyFrom, Cond.initialized RX0, Cond.code yX0_copyFrom cX0_copyFrom 2 none, Cond.fieldLink RX0 9 "BranchNotes$Desk" "settings" "[I", Cond.methodLink RX0 30 arraycopyName, Cond.fieldLink RX0 15 "BranchNotes$Desk" "strengths" "[I", Cond.fieldLink RX0 18 "BranchNotes$Desk" "lastPlaces" "[I", Cond.fieldLink RX0 21 "BranchNotes$Desk" "uses" "[I", Cond.fieldLink RX0 24 "BranchNotes$Desk" "rights" "[I", Cond.fieldLink RX0 27 "BranchNotes$Desk" "paths" "[I", Cond.fieldLink RX0 36 "BranchNotes$Desk" "clashes" "I", Cond.fieldLink RX0 40 "BranchNotes$Desk" "right" "I", Cond.methodLink RX5 228 yX2_succeeds, Cond.static yX2_succeeds, Cond.initialized RX2, Cond.code yX2_succeeds cX2_succeeds 8 (some .boolean)]
def wsX5_runScript_r3 : List Cond := [Cond.fieldLink RX2 30 "BranchNotes$State" "right" "I", Cond.fieldLink RX2 45 "BranchNotes$State" "desks" "[LBranchNotes$Desk;", Cond.fieldLink RX2 49 "BranchNotes$Desk" "strengths" "[I", Cond.fieldLink RX2 55 "BranchNotes$State" "points" "I", Cond.methodLink RX2 7 yX2_goOften, Cond.static yX2_goOften, Cond.code yX2_goOften cX2_goOften 5 (some .boolean), Cond.static yX5_isPlace, Cond.code yX5_isPlace cX5_isPlace 1 (some .boolean), Cond.methodLink RX2 61 yX3_go, Cond.instanceMethod yX3_go, Cond.selects RX3 yX3_go yX3_go, Cond.code yX3_go cX3_go 7 (some .boolean), Cond.methodLink RX3 83 yX3_deskSays, Cond.instanceMethod yX3_deskSays, Cond.selects RX3 yX3_deskSays yX3_deskSays, Cond.code yX3_deskSays cX3_deskSays 4 (some .boolean), Cond.fieldLink RX3 80 "BranchNotes$Desk" "strengths" "[I", Cond.methodLink RX3 76 yX0_noteFor, Cond.instanceMethod yX0_noteFor, Cond.selects RX0 yX0_noteFor yX0_noteFor, Cond.code yX0_noteFor cX0_noteFor 5 (some .int), Cond.methodLink RX0 50 yX0_pathFor, Cond.instanceMethod yX0_pathFor]
def wsX5_runScript_r4 : List Cond := [Cond.selects RX0 yX0_pathFor yX0_pathFor, Cond.code yX0_pathFor cX0_pathFor 2 (some .int), Cond.methodLink RX3 87 yX3_countGuess, Cond.instanceMethod yX3_countGuess, Cond.selects RX3 yX3_countGuess yX3_countGuess, Cond.code yX3_countGuess cX3_countGuess 4 none, Cond.methodLink RX3 115 Lib.Math.max.name, Cond.static Lib.Math.max.name, Cond.initialized "java/lang/Math", Cond.code Lib.Math.max.name Lib.Math.max.code 2 (some .int), Cond.methodLink RX3 91 yX3_moveChooser, Cond.instanceMethod yX3_moveChooser, Cond.selects RX3 yX3_moveChooser yX3_moveChooser, Cond.code yX3_moveChooser cX3_moveChooser 3 none, Cond.methodLink RX3 120 Lib.Math.min.name, Cond.static Lib.Math.min.name, Cond.code Lib.Math.min.name Lib.Math.min.code 2 (some .int), Cond.methodLink RX3 95 yX3_noteFor, Cond.instanceMethod yX3_noteFor, Cond.selects RX3 yX3_noteFor yX3_noteFor, Cond.code yX3_noteFor cX3_noteFor 3 (some .int), Cond.methodLink RX3 96 yX0_use, Cond.instanceMethod yX0_use, Cond.selects RX0 yX0_use yX0_use]
def wsX5_runScript_r5 : List Cond := [Cond.code yX0_use cX0_use 5 none, Cond.methodLink RX0 54 Lib.Math.min.name, Cond.methodLink RX0 60 Lib.Math.max.name, Cond.methodLink RX3 100 yX0_changePath, Cond.instanceMethod yX0_changePath, Cond.selects RX0 yX0_changePath yX0_changePath, Cond.code yX0_changePath cX0_changePath 4 none, Cond.methodLink RX2 13 yX2_changeDesk, Cond.static yX2_changeDesk, Cond.code yX2_changeDesk cX2_changeDesk 4 (some .boolean), Cond.static yX5_isDesk, Cond.code yX5_isDesk cX5_isDesk 1 (some .boolean), Cond.static yX5_isDeskSetting, Cond.code yX5_isDeskSetting cX5_isDeskSetting 2 (some .boolean), Cond.fieldLink RX5 253 "BranchNotes" "DESK_MOST" "[I", Cond.methodLink RX2 69 yX3_changeDesk, Cond.instanceMethod yX3_changeDesk, Cond.selects RX3 yX3_changeDesk yX3_changeDesk, Cond.code yX3_changeDesk cX3_changeDesk 4 none, Cond.fieldLink RX3 34 "BranchNotes$Desk" "settings" "[I", Cond.methodLink RX3 35 yX3_beginAnew, Cond.instanceMethod yX3_beginAnew, Cond.selects RX3 yX3_beginAnew yX3_beginAnew, Cond.code yX3_beginAnew cX3_beginAnew 2 none]
def wsX5_runScript_r6 : List Cond := [Cond.methodLink RX3 64 yX0_beginAnew, Cond.instanceMethod yX0_beginAnew, Cond.selects RX0 yX0_beginAnew yX0_beginAnew, Cond.code yX0_beginAnew cX0_beginAnew 2 none, Cond.constant RX0 49 (-99999), Cond.methodLink RX0 43 yJ7_fill_53178, Cond.static yJ7_fill_53178, Cond.initialized RJ7, Cond.code yJ7_fill_53178 cJ7_fill_53178 4 none, Cond.methodLink RX3 67 yJ7_fill_53178, Cond.methodLink RX2 16 yX2_changeBoth, Cond.static yX2_changeBoth, Cond.code yX2_changeBoth cX2_changeBoth 3 (some .boolean), Cond.static yX5_isCommonSetting, Cond.code yX5_isCommonSetting cX5_isCommonSetting 2 (some .boolean), Cond.fieldLink RX5 256 "BranchNotes" "COMMON_LEAST" "[I", Cond.fieldLink RX5 259 "BranchNotes" "COMMON_MOST" "[I", Cond.methodLink RX2 75 yX3_changeBoth, Cond.instanceMethod yX3_changeBoth, Cond.selects RX3 yX3_changeBoth yX3_changeBoth, Cond.code yX3_changeBoth cX3_changeBoth 3 none, Cond.methodLink RX2 20 yX2_forgetAll, Cond.static yX2_forgetAll, Cond.code yX2_forgetAll cX2_forgetAll 1 (some .boolean)]
def wsX5_runScript_r7 : List Cond := [Cond.methodLink RX2 78 yX3_beginAnew, Cond.methodLink RX2 24 yX2_makeStrength, Cond.static yX2_makeStrength, Cond.code yX2_makeStrength cX2_makeStrength 4 (some .boolean), Cond.methodLink RX2 42 yX3_isNote, Cond.instanceMethod yX3_isNote, Cond.selects RX3 yX3_isNote yX3_isNote, Cond.code yX3_isNote cX3_isNote 2 (some .boolean), Cond.methodLink RX2 81 yX3_isStrength, Cond.instanceMethod yX3_isStrength, Cond.selects RX3 yX3_isStrength yX3_isStrength, Cond.code yX3_isStrength cX3_isStrength 2 (some .boolean), Cond.methodLink RX2 27 yX2_isGuess, Cond.static yX2_isGuess, Cond.code yX2_isGuess cX2_isGuess 3 (some .boolean), Cond.methodLink RX2 84 yX3_guessFor, Cond.instanceMethod yX3_guessFor, Cond.selects RX3 yX3_guessFor yX3_guessFor, Cond.code yX3_guessFor cX3_guessFor 2 (some .boolean)]
def wsX5_runScript : List Cond := .code yX5_runScript cX5_runScript 5 (some .int) :: ((wsX5_runScript_r1 ++ (wsX5_runScript_r2 ++ (wsX5_runScript_r3 ++ (wsX5_runScript_r4 ++ (wsX5_runScript_r5 ++ (wsX5_runScript_r6 ++ wsX5_runScript_r7)))))) ++ wsX50 ++ wsX30 ++ wsX00 ++ (vx_atS RX5 45 "java/lang/IllegalArgumentException" ["java/lang/RuntimeException", "java/lang/Exception"]).filter goodWord)
def wsX5_simulate_r1 : List Cond := [Cond.classLink RX5 41 "java/lang/IllegalArgumentException", Cond.initialized "java/lang/IllegalArgumentException", Cond.fieldLink RX5 23 "BranchNotes" "trial" "LBranchNotes$State;", Cond.fieldLink RX5 19 "BranchNotes" "state" "LBranchNotes$State;", Cond.constantLong RX5 236 (6364136223846793005), Cond.constantLong RX5 238 (1442695040888963407), Cond.fieldLink RX5 72 "BranchNotes$State" "right" "I", Cond.methodLink RX5 243 Lib.Math.min.name, Cond.static Lib.Math.min.name, Cond.initialized "java/lang/Math", Cond.code Lib.Math.min.name Lib.Math.min.code 2 (some .int), Cond.methodLink RX5 212 yX3_copyFrom, Cond.instanceMethod yX3_copyFrom, Cond.selects RX3 yX3_copyFrom yX3_copyFrom, Cond.initialized RX3, Cond.code yX3_copyFrom cX3_copyFrom 3 none, Cond.fieldLink RX3 9 "BranchNotes$State" "settings" "[I", Cond.methodLink RX3 38 arraycopyName, Cond.native arraycopyName, Cond.static arraycopyName, Cond.initialized "java/lang/System", Cond.fieldLink RX3 17 "BranchNotes$State" "desks" "[LBranchNotes$Desk;", Cond.fieldLink RX3 21 "BranchNotes$State" "choosers" "[I", Cond.fieldLink RX3 24 "BranchNotes$State" "goneAt" "[I"]
def wsX5_simulate_r2 : List Cond := [Cond.fieldLink RX3 27 "BranchNotes$State" "takenAt" "[I", Cond.fieldLink RX3 30 "BranchNotes$State" "rightAt" "[I", Cond.fieldLink RX3 48 "BranchNotes$State" "gone" "I", Cond.fieldLink RX3 52 "BranchNotes$State" "right" "I", Cond.fieldLink RX3 55 "BranchNotes$State" "points" "I", Cond.fieldLink RX3 58 "BranchNotes$State" "series" "I", Cond.fieldLink RX3 61 "BranchNotes$State" "longestSeries" "I", Cond.methodLink RX3 44 yX0_copyFrom, Cond.instanceMethod yX0_copyFrom, Cond.selects RX0 yX0_copyFrom yX0_copyFrom, Cond.initialized RX0, Cond.code yX0_copyFrom cX0_copyFrom 2 none, Cond.fieldLink RX0 9 "BranchNotes$Desk" "settings" "[I", Cond.methodLink RX0 30 arraycopyName, Cond.fieldLink RX0 15 "BranchNotes$Desk" "strengths" "[I", Cond.fieldLink RX0 18 "BranchNotes$Desk" "lastPlaces" "[I", Cond.fieldLink RX0 21 "BranchNotes$Desk" "uses" "[I", Cond.fieldLink RX0 24 "BranchNotes$Desk" "rights" "[I", Cond.fieldLink RX0 27 "BranchNotes$Desk" "paths" "[I", Cond.fieldLink RX0 36 "BranchNotes$Desk" "clashes" "I", Cond.fieldLink RX0 40 "BranchNotes$Desk" "right" "I", Cond.methodLink RX5 189 yX3_go, Cond.instanceMethod yX3_go, Cond.selects RX3 yX3_go yX3_go]
def wsX5_simulate_r3 : List Cond := [Cond.code yX3_go cX3_go 7 (some .boolean), Cond.methodLink RX3 83 yX3_deskSays, Cond.instanceMethod yX3_deskSays, Cond.selects RX3 yX3_deskSays yX3_deskSays, Cond.code yX3_deskSays cX3_deskSays 4 (some .boolean), Cond.fieldLink RX3 80 "BranchNotes$Desk" "strengths" "[I", Cond.methodLink RX3 76 yX0_noteFor, Cond.instanceMethod yX0_noteFor, Cond.selects RX0 yX0_noteFor yX0_noteFor, Cond.code yX0_noteFor cX0_noteFor 5 (some .int), Cond.methodLink RX0 50 yX0_pathFor, Cond.instanceMethod yX0_pathFor, Cond.selects RX0 yX0_pathFor yX0_pathFor, Cond.code yX0_pathFor cX0_pathFor 2 (some .int), Cond.methodLink RX3 87 yX3_countGuess, Cond.instanceMethod yX3_countGuess, Cond.selects RX3 yX3_countGuess yX3_countGuess, Cond.code yX3_countGuess cX3_countGuess 4 none, Cond.methodLink RX3 115 Lib.Math.max.name, Cond.static Lib.Math.max.name, Cond.code Lib.Math.max.name Lib.Math.max.code 2 (some .int), Cond.methodLink RX3 91 yX3_moveChooser, Cond.instanceMethod yX3_moveChooser, Cond.selects RX3 yX3_moveChooser yX3_moveChooser]
def wsX5_simulate_r4 : List Cond := [Cond.code yX3_moveChooser cX3_moveChooser 3 none, Cond.methodLink RX3 120 Lib.Math.min.name, Cond.methodLink RX3 95 yX3_noteFor, Cond.instanceMethod yX3_noteFor, Cond.selects RX3 yX3_noteFor yX3_noteFor, Cond.code yX3_noteFor cX3_noteFor 3 (some .int), Cond.methodLink RX3 96 yX0_use, Cond.instanceMethod yX0_use, Cond.selects RX0 yX0_use yX0_use, Cond.code yX0_use cX0_use 5 none, Cond.methodLink RX0 54 Lib.Math.min.name, Cond.methodLink RX0 60 Lib.Math.max.name, Cond.methodLink RX3 100 yX0_changePath, Cond.instanceMethod yX0_changePath, Cond.selects RX0 yX0_changePath yX0_changePath, Cond.code yX0_changePath cX0_changePath 4 none, Cond.methodLink RX5 240 yX3_allClashes, Cond.instanceMethod yX3_allClashes, Cond.selects RX3 yX3_allClashes yX3_allClashes, Cond.code yX3_allClashes cX3_allClashes 1 (some .int), Cond.fieldLink RX3 73 "BranchNotes$Desk" "clashes" "I"]
def wsX5_simulate : List Cond := .code yX5_simulate cX5_simulate 10 (some .int) :: ((wsX5_simulate_r1 ++ (wsX5_simulate_r2 ++ (wsX5_simulate_r3 ++ wsX5_simulate_r4))) ++ wsX50 ++ wsX30 ++ wsX00 ++ (vx_atS RX5 45 "java/lang/IllegalArgumentException" ["java/lang/RuntimeException", "java/lang/Exception"]).filter goodWord)
def wsX5_checkSlot : List Cond := .code yX5_checkSlot cX5_checkSlot 1 none :: ([.classLink RX5 265 "java/lang/IndexOutOfBoundsException", .initialized "java/lang/IndexOutOfBoundsException"] ++ (vx_atS RX5 269 "java/lang/IndexOutOfBoundsException" ["java/lang/RuntimeException", "java/lang/Exception"]).filter goodWord)
def wsX5_save_r1 : List Cond := [Cond.fieldLink RX5 33 "BranchNotes" "slots" "[LBranchNotes$State;", Cond.fieldLink RX5 19 "BranchNotes" "state" "LBranchNotes$State;", Cond.fieldLink RX5 37 "BranchNotes" "saved" "[Z", Cond.fieldLink RX5 69 "BranchNotes$State" "gone" "I", Cond.methodLink RX5 248 yX5_checkSlot, Cond.static yX5_checkSlot, Cond.initialized RX5, Cond.code yX5_checkSlot cX5_checkSlot 1 none, Cond.classLink RX5 265 "java/lang/IndexOutOfBoundsException", Cond.initialized "java/lang/IndexOutOfBoundsException", Cond.methodLink RX5 212 yX3_copyFrom, Cond.instanceMethod yX3_copyFrom, Cond.selects RX3 yX3_copyFrom yX3_copyFrom, Cond.initialized RX3, Cond.code yX3_copyFrom cX3_copyFrom 3 none, Cond.fieldLink RX3 9 "BranchNotes$State" "settings" "[I", Cond.methodLink RX3 38 arraycopyName, Cond.native arraycopyName, Cond.static arraycopyName, Cond.initialized "java/lang/System", Cond.fieldLink RX3 17 "BranchNotes$State" "desks" "[LBranchNotes$Desk;", Cond.fieldLink RX3 21 "BranchNotes$State" "choosers" "[I", Cond.fieldLink RX3 24 "BranchNotes$State" "goneAt" "[I", Cond.fieldLink RX3 27 "BranchNotes$State" "takenAt" "[I"]
def wsX5_save_r2 : List Cond := [Cond.fieldLink RX3 30 "BranchNotes$State" "rightAt" "[I", Cond.fieldLink RX3 48 "BranchNotes$State" "gone" "I", Cond.fieldLink RX3 52 "BranchNotes$State" "right" "I", Cond.fieldLink RX3 55 "BranchNotes$State" "points" "I", Cond.fieldLink RX3 58 "BranchNotes$State" "series" "I", Cond.fieldLink RX3 61 "BranchNotes$State" "longestSeries" "I", Cond.methodLink RX3 44 yX0_copyFrom, Cond.instanceMethod yX0_copyFrom, Cond.selects RX0 yX0_copyFrom yX0_copyFrom, Cond.initialized RX0, Cond.code yX0_copyFrom cX0_copyFrom 2 none, Cond.fieldLink RX0 9 "BranchNotes$Desk" "settings" "[I", Cond.methodLink RX0 30 arraycopyName, Cond.fieldLink RX0 15 "BranchNotes$Desk" "strengths" "[I", Cond.fieldLink RX0 18 "BranchNotes$Desk" "lastPlaces" "[I", Cond.fieldLink RX0 21 "BranchNotes$Desk" "uses" "[I", Cond.fieldLink RX0 24 "BranchNotes$Desk" "rights" "[I", Cond.fieldLink RX0 27 "BranchNotes$Desk" "paths" "[I", Cond.fieldLink RX0 36 "BranchNotes$Desk" "clashes" "I", Cond.fieldLink RX0 40 "BranchNotes$Desk" "right" "I"]
def wsX5_save : List Cond := .code yX5_save cX5_save 2 (some .int) :: ((wsX5_save_r1 ++ wsX5_save_r2) ++ wsX50 ++ wsX30 ++ wsX00 ++ (vx_atS RX5 269 "java/lang/IndexOutOfBoundsException" ["java/lang/RuntimeException", "java/lang/Exception"]).filter goodWord)
def wsX5_restore_r1 : List Cond := [Cond.classLink RX5 52 "java/lang/IllegalStateException", Cond.initialized "java/lang/IllegalStateException", Cond.fieldLink RX5 37 "BranchNotes" "saved" "[Z", Cond.fieldLink RX5 19 "BranchNotes" "state" "LBranchNotes$State;", Cond.fieldLink RX5 33 "BranchNotes" "slots" "[LBranchNotes$State;", Cond.fieldLink RX5 29 "BranchNotes" "history" "LBranchNotes$History;", Cond.fieldLink RX5 209 "BranchNotes$History" "count" "I", Cond.fieldLink RX5 69 "BranchNotes$State" "gone" "I", Cond.methodLink RX5 248 yX5_checkSlot, Cond.static yX5_checkSlot, Cond.initialized RX5, Cond.code yX5_checkSlot cX5_checkSlot 1 none, Cond.classLink RX5 265 "java/lang/IndexOutOfBoundsException", Cond.initialized "java/lang/IndexOutOfBoundsException", Cond.methodLink RX5 212 yX3_copyFrom, Cond.instanceMethod yX3_copyFrom, Cond.selects RX3 yX3_copyFrom yX3_copyFrom, Cond.initialized RX3, Cond.code yX3_copyFrom cX3_copyFrom 3 none, Cond.fieldLink RX3 9 "BranchNotes$State" "settings" "[I", Cond.methodLink RX3 38 arraycopyName, Cond.native arraycopyName, Cond.static arraycopyName, Cond.initialized "java/lang/System"]
def wsX5_restore_r2 : List Cond := [Cond.fieldLink RX3 17 "BranchNotes$State" "desks" "[LBranchNotes$Desk;", Cond.fieldLink RX3 21 "BranchNotes$State" "choosers" "[I", Cond.fieldLink RX3 24 "BranchNotes$State" "goneAt" "[I", Cond.fieldLink RX3 27 "BranchNotes$State" "takenAt" "[I", Cond.fieldLink RX3 30 "BranchNotes$State" "rightAt" "[I", Cond.fieldLink RX3 48 "BranchNotes$State" "gone" "I", Cond.fieldLink RX3 52 "BranchNotes$State" "right" "I", Cond.fieldLink RX3 55 "BranchNotes$State" "points" "I", Cond.fieldLink RX3 58 "BranchNotes$State" "series" "I", Cond.fieldLink RX3 61 "BranchNotes$State" "longestSeries" "I", Cond.methodLink RX3 44 yX0_copyFrom, Cond.instanceMethod yX0_copyFrom, Cond.selects RX0 yX0_copyFrom yX0_copyFrom, Cond.initialized RX0, Cond.code yX0_copyFrom cX0_copyFrom 2 none, Cond.fieldLink RX0 9 "BranchNotes$Desk" "settings" "[I", Cond.methodLink RX0 30 arraycopyName, Cond.fieldLink RX0 15 "BranchNotes$Desk" "strengths" "[I", Cond.fieldLink RX0 18 "BranchNotes$Desk" "lastPlaces" "[I", Cond.fieldLink RX0 21 "BranchNotes$Desk" "uses" "[I", Cond.fieldLink RX0 24 "BranchNotes$Desk" "rights" "[I", Cond.fieldLink RX0 27 "BranchNotes$Desk" "paths" "[I", Cond.fieldLink RX0 36 "BranchNotes$Desk" "clashes" "I", Cond.fieldLink RX0 40 "BranchNotes$Desk" "right" "I"]
def wsX5_restore : List Cond := .code yX5_restore cX5_restore 2 (some .int) :: ((wsX5_restore_r1 ++ wsX5_restore_r2) ++ wsX50 ++ wsX10 ++ wsX30 ++ wsX00 ++ (vx_atS RX5 56 "java/lang/IllegalStateException" ["java/lang/RuntimeException", "java/lang/Exception"]).filter goodWord ++ (vx_atS RX5 269 "java/lang/IndexOutOfBoundsException" ["java/lang/RuntimeException", "java/lang/Exception"]).filter goodWord)
def wsJ9_max_7cf53 : List Cond := .code yJ9_max_7cf53 cJ9_max_7cf53 2 (some .int) :: ([])
def wsJ9_min_7cf53 : List Cond := .code yJ9_min_7cf53 cJ9_min_7cf53 2 (some .int) :: ([])
def wsL_tryScript_r1 : List Cond := [Cond.classLink RL 13 "java/lang/IllegalArgumentException", Cond.constant RL 15 (-9999002), Cond.methodLink RL 7 yX5_runScript, Cond.instanceMethod yX5_runScript, Cond.selects RX5 yX5_runScript yX5_runScript, Cond.initialized RX5, Cond.code yX5_runScript cX5_runScript 5 (some .int), Cond.classLink RX5 41 "java/lang/IllegalArgumentException", Cond.initialized "java/lang/IllegalArgumentException", Cond.fieldLink RX5 23 "BranchNotes" "trial" "LBranchNotes$State;", Cond.fieldLink RX5 19 "BranchNotes" "state" "LBranchNotes$State;", Cond.constantLong RX5 226 (100000), Cond.constant RX5 65 (-99999), Cond.methodLink RX5 220 yX5_withoutLastGroups, Cond.static yX5_withoutLastGroups, Cond.code yX5_withoutLastGroups cX5_withoutLastGroups 6 (some .long), Cond.methodLink RX5 212 yX3_copyFrom, Cond.instanceMethod yX3_copyFrom, Cond.selects RX3 yX3_copyFrom yX3_copyFrom, Cond.initialized RX3, Cond.code yX3_copyFrom cX3_copyFrom 3 none, Cond.fieldLink RX3 9 "BranchNotes$State" "settings" "[I", Cond.methodLink RX3 38 arraycopyName, Cond.native arraycopyName]
def wsL_tryScript_r2 : List Cond := [Cond.static arraycopyName, Cond.initialized "java/lang/System", Cond.fieldLink RX3 17 "BranchNotes$State" "desks" "[LBranchNotes$Desk;", Cond.fieldLink RX3 21 "BranchNotes$State" "choosers" "[I", Cond.fieldLink RX3 24 "BranchNotes$State" "goneAt" "[I", Cond.fieldLink RX3 27 "BranchNotes$State" "takenAt" "[I", Cond.fieldLink RX3 30 "BranchNotes$State" "rightAt" "[I", Cond.fieldLink RX3 48 "BranchNotes$State" "gone" "I", Cond.fieldLink RX3 52 "BranchNotes$State" "right" "I", Cond.fieldLink RX3 55 "BranchNotes$State" "points" "I", Cond.fieldLink RX3 58 "BranchNotes$State" "series" "I", Cond.fieldLink RX3 61 "BranchNotes$State" "longestSeries" "I", Cond.methodLink RX3 44 yX0_copyFrom, Cond.instanceMethod yX0_copyFrom, Cond.selects RX0 yX0_copyFrom yX0_copyFrom, Cond.initialized RX0, Cond.code yX0_copyFrom cX0_copyFrom 2 none, Cond.fieldLink RX0 9 "BranchNotes$Desk" "settings" "[I", Cond.methodLink RX0 30 arraycopyName, Cond.fieldLink RX0 15 "BranchNotes$Desk" "strengths" "[I", Cond.fieldLink RX0 18 "BranchNotes$Desk" "lastPlaces" "[I", Cond.fieldLink RX0 21 "BranchNotes$Desk" "uses" "[I", Cond.fieldLink RX0 24 "BranchNotes$Desk" "rights" "[I", Cond.fieldLink RX0 27 "BranchNotes$Desk" "paths" "[I"]
def wsL_tryScript_r3 : List Cond := [Cond.fieldLink RX0 36 "BranchNotes$Desk" "clashes" "I", Cond.fieldLink RX0 40 "BranchNotes$Desk" "right" "I", Cond.methodLink RX5 228 yX2_succeeds, Cond.static yX2_succeeds, Cond.initialized RX2, Cond.code yX2_succeeds cX2_succeeds 8 (some .boolean), Cond.fieldLink RX2 30 "BranchNotes$State" "right" "I", Cond.fieldLink RX2 45 "BranchNotes$State" "desks" "[LBranchNotes$Desk;", Cond.fieldLink RX2 49 "BranchNotes$Desk" "strengths" "[I", Cond.fieldLink RX2 55 "BranchNotes$State" "points" "I", Cond.methodLink RX2 7 yX2_goOften, Cond.static yX2_goOften, Cond.code yX2_goOften cX2_goOften 5 (some .boolean), Cond.static yX5_isPlace, Cond.code yX5_isPlace cX5_isPlace 1 (some .boolean), Cond.methodLink RX2 61 yX3_go, Cond.instanceMethod yX3_go, Cond.selects RX3 yX3_go yX3_go, Cond.code yX3_go cX3_go 7 (some .boolean), Cond.methodLink RX3 83 yX3_deskSays, Cond.instanceMethod yX3_deskSays, Cond.selects RX3 yX3_deskSays yX3_deskSays, Cond.code yX3_deskSays cX3_deskSays 4 (some .boolean), Cond.fieldLink RX3 80 "BranchNotes$Desk" "strengths" "[I"]
def wsL_tryScript_r4 : List Cond := [Cond.methodLink RX3 76 yX0_noteFor, Cond.instanceMethod yX0_noteFor, Cond.selects RX0 yX0_noteFor yX0_noteFor, Cond.code yX0_noteFor cX0_noteFor 5 (some .int), Cond.methodLink RX0 50 yX0_pathFor, Cond.instanceMethod yX0_pathFor, Cond.selects RX0 yX0_pathFor yX0_pathFor, Cond.code yX0_pathFor cX0_pathFor 2 (some .int), Cond.methodLink RX3 87 yX3_countGuess, Cond.instanceMethod yX3_countGuess, Cond.selects RX3 yX3_countGuess yX3_countGuess, Cond.code yX3_countGuess cX3_countGuess 4 none, Cond.methodLink RX3 115 Lib.Math.max.name, Cond.static Lib.Math.max.name, Cond.initialized "java/lang/Math", Cond.code Lib.Math.max.name Lib.Math.max.code 2 (some .int), Cond.methodLink RX3 91 yX3_moveChooser, Cond.instanceMethod yX3_moveChooser, Cond.selects RX3 yX3_moveChooser yX3_moveChooser, Cond.code yX3_moveChooser cX3_moveChooser 3 none, Cond.methodLink RX3 120 Lib.Math.min.name, Cond.static Lib.Math.min.name, Cond.code Lib.Math.min.name Lib.Math.min.code 2 (some .int), Cond.methodLink RX3 95 yX3_noteFor]
def wsL_tryScript_r5 : List Cond := [Cond.instanceMethod yX3_noteFor, Cond.selects RX3 yX3_noteFor yX3_noteFor, Cond.code yX3_noteFor cX3_noteFor 3 (some .int), Cond.methodLink RX3 96 yX0_use, Cond.instanceMethod yX0_use, Cond.selects RX0 yX0_use yX0_use, Cond.code yX0_use cX0_use 5 none, Cond.methodLink RX0 54 Lib.Math.min.name, Cond.methodLink RX0 60 Lib.Math.max.name, Cond.methodLink RX3 100 yX0_changePath, Cond.instanceMethod yX0_changePath, Cond.selects RX0 yX0_changePath yX0_changePath, Cond.code yX0_changePath cX0_changePath 4 none, Cond.methodLink RX2 13 yX2_changeDesk, Cond.static yX2_changeDesk, Cond.code yX2_changeDesk cX2_changeDesk 4 (some .boolean), Cond.static yX5_isDesk, Cond.code yX5_isDesk cX5_isDesk 1 (some .boolean), Cond.static yX5_isDeskSetting, Cond.code yX5_isDeskSetting cX5_isDeskSetting 2 (some .boolean), Cond.fieldLink RX5 253 "BranchNotes" "DESK_MOST" "[I", Cond.methodLink RX2 69 yX3_changeDesk, Cond.instanceMethod yX3_changeDesk, Cond.selects RX3 yX3_changeDesk yX3_changeDesk]
def wsL_tryScript_r6 : List Cond := [Cond.code yX3_changeDesk cX3_changeDesk 4 none, Cond.fieldLink RX3 34 "BranchNotes$Desk" "settings" "[I", Cond.methodLink RX3 35 yX3_beginAnew, Cond.instanceMethod yX3_beginAnew, Cond.selects RX3 yX3_beginAnew yX3_beginAnew, Cond.code yX3_beginAnew cX3_beginAnew 2 none, Cond.methodLink RX3 64 yX0_beginAnew, Cond.instanceMethod yX0_beginAnew, Cond.selects RX0 yX0_beginAnew yX0_beginAnew, Cond.code yX0_beginAnew cX0_beginAnew 2 none, Cond.constant RX0 49 (-99999), Cond.methodLink RX0 43 yJ7_fill_53178, Cond.static yJ7_fill_53178, Cond.initialized RJ7, Cond.code yJ7_fill_53178 cJ7_fill_53178 4 none, Cond.methodLink RX3 67 yJ7_fill_53178, Cond.methodLink RX2 16 yX2_changeBoth, Cond.static yX2_changeBoth, Cond.code yX2_changeBoth cX2_changeBoth 3 (some .boolean), Cond.static yX5_isCommonSetting, Cond.code yX5_isCommonSetting cX5_isCommonSetting 2 (some .boolean), Cond.fieldLink RX5 256 "BranchNotes" "COMMON_LEAST" "[I", Cond.fieldLink RX5 259 "BranchNotes" "COMMON_MOST" "[I", Cond.methodLink RX2 75 yX3_changeBoth]
def wsL_tryScript_r7 : List Cond := [Cond.instanceMethod yX3_changeBoth, Cond.selects RX3 yX3_changeBoth yX3_changeBoth, Cond.code yX3_changeBoth cX3_changeBoth 3 none, Cond.methodLink RX2 20 yX2_forgetAll, Cond.static yX2_forgetAll, Cond.code yX2_forgetAll cX2_forgetAll 1 (some .boolean), Cond.methodLink RX2 78 yX3_beginAnew, Cond.methodLink RX2 24 yX2_makeStrength, Cond.static yX2_makeStrength, Cond.code yX2_makeStrength cX2_makeStrength 4 (some .boolean), Cond.methodLink RX2 42 yX3_isNote, Cond.instanceMethod yX3_isNote, Cond.selects RX3 yX3_isNote yX3_isNote, Cond.code yX3_isNote cX3_isNote 2 (some .boolean), Cond.methodLink RX2 81 yX3_isStrength, Cond.instanceMethod yX3_isStrength, Cond.selects RX3 yX3_isStrength yX3_isStrength, Cond.code yX3_isStrength cX3_isStrength 2 (some .boolean), Cond.methodLink RX2 27 yX2_isGuess, Cond.static yX2_isGuess, Cond.code yX2_isGuess cX2_isGuess 3 (some .boolean), Cond.methodLink RX2 84 yX3_guessFor, Cond.instanceMethod yX3_guessFor, Cond.selects RX3 yX3_guessFor yX3_guessFor]
def wsL_tryScript_r8 : List Cond := [Cond.code yX3_guessFor cX3_guessFor 2 (some .boolean)]
def wsL_tryScript : List Cond := .codeWith yL_tryScript cL_tryScript 5 (some .int) [(0, 6, 7, 13)] :: ((wsL_tryScript_r1 ++ (wsL_tryScript_r2 ++ (wsL_tryScript_r3 ++ (wsL_tryScript_r4 ++ (wsL_tryScript_r5 ++ (wsL_tryScript_r6 ++ (wsL_tryScript_r7 ++ wsL_tryScript_r8))))))) ++ wsX50 ++ wsX30 ++ wsX00 ++ (vx_atS RX5 45 "java/lang/IllegalArgumentException" ["java/lang/RuntimeException", "java/lang/Exception"]).filter goodWord)
def wsL_trySimulate_r1 : List Cond := [Cond.classLink RL 13 "java/lang/IllegalArgumentException", Cond.constant RL 15 (-9999002), Cond.methodLink RL 16 yX5_simulate, Cond.instanceMethod yX5_simulate, Cond.selects RX5 yX5_simulate yX5_simulate, Cond.initialized RX5, Cond.code yX5_simulate cX5_simulate 10 (some .int), Cond.classLink RX5 41 "java/lang/IllegalArgumentException", Cond.initialized "java/lang/IllegalArgumentException", Cond.fieldLink RX5 23 "BranchNotes" "trial" "LBranchNotes$State;", Cond.fieldLink RX5 19 "BranchNotes" "state" "LBranchNotes$State;", Cond.constantLong RX5 236 (6364136223846793005), Cond.constantLong RX5 238 (1442695040888963407), Cond.fieldLink RX5 72 "BranchNotes$State" "right" "I", Cond.methodLink RX5 243 Lib.Math.min.name, Cond.static Lib.Math.min.name, Cond.initialized "java/lang/Math", Cond.code Lib.Math.min.name Lib.Math.min.code 2 (some .int), Cond.methodLink RX5 212 yX3_copyFrom, Cond.instanceMethod yX3_copyFrom, Cond.selects RX3 yX3_copyFrom yX3_copyFrom, Cond.initialized RX3, Cond.code yX3_copyFrom cX3_copyFrom 3 none, Cond.fieldLink RX3 9 "BranchNotes$State" "settings" "[I"]
def wsL_trySimulate_r2 : List Cond := [Cond.methodLink RX3 38 arraycopyName, Cond.native arraycopyName, Cond.static arraycopyName, Cond.initialized "java/lang/System", Cond.fieldLink RX3 17 "BranchNotes$State" "desks" "[LBranchNotes$Desk;", Cond.fieldLink RX3 21 "BranchNotes$State" "choosers" "[I", Cond.fieldLink RX3 24 "BranchNotes$State" "goneAt" "[I", Cond.fieldLink RX3 27 "BranchNotes$State" "takenAt" "[I", Cond.fieldLink RX3 30 "BranchNotes$State" "rightAt" "[I", Cond.fieldLink RX3 48 "BranchNotes$State" "gone" "I", Cond.fieldLink RX3 52 "BranchNotes$State" "right" "I", Cond.fieldLink RX3 55 "BranchNotes$State" "points" "I", Cond.fieldLink RX3 58 "BranchNotes$State" "series" "I", Cond.fieldLink RX3 61 "BranchNotes$State" "longestSeries" "I", Cond.methodLink RX3 44 yX0_copyFrom, Cond.instanceMethod yX0_copyFrom, Cond.selects RX0 yX0_copyFrom yX0_copyFrom, Cond.initialized RX0, Cond.code yX0_copyFrom cX0_copyFrom 2 none, Cond.fieldLink RX0 9 "BranchNotes$Desk" "settings" "[I", Cond.methodLink RX0 30 arraycopyName, Cond.fieldLink RX0 15 "BranchNotes$Desk" "strengths" "[I", Cond.fieldLink RX0 18 "BranchNotes$Desk" "lastPlaces" "[I", Cond.fieldLink RX0 21 "BranchNotes$Desk" "uses" "[I"]
def wsL_trySimulate_r3 : List Cond := [Cond.fieldLink RX0 24 "BranchNotes$Desk" "rights" "[I", Cond.fieldLink RX0 27 "BranchNotes$Desk" "paths" "[I", Cond.fieldLink RX0 36 "BranchNotes$Desk" "clashes" "I", Cond.fieldLink RX0 40 "BranchNotes$Desk" "right" "I", Cond.methodLink RX5 189 yX3_go, Cond.instanceMethod yX3_go, Cond.selects RX3 yX3_go yX3_go, Cond.code yX3_go cX3_go 7 (some .boolean), Cond.methodLink RX3 83 yX3_deskSays, Cond.instanceMethod yX3_deskSays, Cond.selects RX3 yX3_deskSays yX3_deskSays, Cond.code yX3_deskSays cX3_deskSays 4 (some .boolean), Cond.fieldLink RX3 80 "BranchNotes$Desk" "strengths" "[I", Cond.methodLink RX3 76 yX0_noteFor, Cond.instanceMethod yX0_noteFor, Cond.selects RX0 yX0_noteFor yX0_noteFor, Cond.code yX0_noteFor cX0_noteFor 5 (some .int), Cond.methodLink RX0 50 yX0_pathFor, Cond.instanceMethod yX0_pathFor, Cond.selects RX0 yX0_pathFor yX0_pathFor, Cond.code yX0_pathFor cX0_pathFor 2 (some .int), Cond.methodLink RX3 87 yX3_countGuess, Cond.instanceMethod yX3_countGuess, Cond.selects RX3 yX3_countGuess yX3_countGuess]
def wsL_trySimulate_r4 : List Cond := [Cond.code yX3_countGuess cX3_countGuess 4 none, Cond.methodLink RX3 115 Lib.Math.max.name, Cond.static Lib.Math.max.name, Cond.code Lib.Math.max.name Lib.Math.max.code 2 (some .int), Cond.methodLink RX3 91 yX3_moveChooser, Cond.instanceMethod yX3_moveChooser, Cond.selects RX3 yX3_moveChooser yX3_moveChooser, Cond.code yX3_moveChooser cX3_moveChooser 3 none, Cond.methodLink RX3 120 Lib.Math.min.name, Cond.methodLink RX3 95 yX3_noteFor, Cond.instanceMethod yX3_noteFor, Cond.selects RX3 yX3_noteFor yX3_noteFor, Cond.code yX3_noteFor cX3_noteFor 3 (some .int), Cond.methodLink RX3 96 yX0_use, Cond.instanceMethod yX0_use, Cond.selects RX0 yX0_use yX0_use, Cond.code yX0_use cX0_use 5 none, Cond.methodLink RX0 54 Lib.Math.min.name, Cond.methodLink RX0 60 Lib.Math.max.name, Cond.methodLink RX3 100 yX0_changePath, Cond.instanceMethod yX0_changePath, Cond.selects RX0 yX0_changePath yX0_changePath, Cond.code yX0_changePath cX0_changePath 4 none, Cond.methodLink RX5 240 yX3_allClashes]
def wsL_trySimulate_r5 : List Cond := [Cond.instanceMethod yX3_allClashes, Cond.selects RX3 yX3_allClashes yX3_allClashes, Cond.code yX3_allClashes cX3_allClashes 1 (some .int), Cond.fieldLink RX3 73 "BranchNotes$Desk" "clashes" "I"]
def wsL_trySimulate : List Cond := .codeWith yL_trySimulate cL_trySimulate 5 (some .int) [(0, 6, 7, 13)] :: ((wsL_trySimulate_r1 ++ (wsL_trySimulate_r2 ++ (wsL_trySimulate_r3 ++ (wsL_trySimulate_r4 ++ wsL_trySimulate_r5)))) ++ wsX50 ++ wsX30 ++ wsX00 ++ (vx_atS RX5 45 "java/lang/IllegalArgumentException" ["java/lang/RuntimeException", "java/lang/Exception"]).filter goodWord)
def wsL_tryGo_r1 : List Cond := [Cond.classLink RL 24 "java/lang/IndexOutOfBoundsException", Cond.constant RL 26 (-9999001), Cond.methodLink RL 20 yX5_branch, Cond.instanceMethod yX5_branch, Cond.selects RX5 yX5_branch yX5_branch, Cond.initialized RX5, Cond.code yX5_branch cX5_branch 3 (some .boolean), Cond.fieldLink RX5 29 "BranchNotes" "history" "LBranchNotes$History;", Cond.fieldLink RX5 19 "BranchNotes" "state" "LBranchNotes$State;", Cond.methodLink RX5 127 yX5_checkPlace, Cond.static yX5_checkPlace, Cond.code yX5_checkPlace cX5_checkPlace 1 none, Cond.classLink RX5 265 "java/lang/IndexOutOfBoundsException", Cond.initialized "java/lang/IndexOutOfBoundsException", Cond.methodLink RX5 270 yX5_isPlace, Cond.static yX5_isPlace, Cond.code yX5_isPlace cX5_isPlace 1 (some .boolean), Cond.methodLink RX5 164 yX1_remember, Cond.instanceMethod yX1_remember, Cond.selects RX1 yX1_remember yX1_remember, Cond.initialized RX1, Cond.code yX1_remember cX1_remember 2 none, Cond.fieldLink RX1 16 "BranchNotes$History" "count" "I", Cond.fieldLink RX1 20 "BranchNotes$History" "oldest" "I"]
def wsL_tryGo_r2 : List Cond := [Cond.fieldLink RX1 11 "BranchNotes$History" "ring" "[LBranchNotes$State;", Cond.methodLink RX1 23 yX3_copyFrom, Cond.instanceMethod yX3_copyFrom, Cond.selects RX3 yX3_copyFrom yX3_copyFrom, Cond.initialized RX3, Cond.code yX3_copyFrom cX3_copyFrom 3 none, Cond.fieldLink RX3 9 "BranchNotes$State" "settings" "[I", Cond.methodLink RX3 38 arraycopyName, Cond.native arraycopyName, Cond.static arraycopyName, Cond.initialized "java/lang/System", Cond.fieldLink RX3 17 "BranchNotes$State" "desks" "[LBranchNotes$Desk;", Cond.fieldLink RX3 21 "BranchNotes$State" "choosers" "[I", Cond.fieldLink RX3 24 "BranchNotes$State" "goneAt" "[I", Cond.fieldLink RX3 27 "BranchNotes$State" "takenAt" "[I", Cond.fieldLink RX3 30 "BranchNotes$State" "rightAt" "[I", Cond.fieldLink RX3 48 "BranchNotes$State" "gone" "I", Cond.fieldLink RX3 52 "BranchNotes$State" "right" "I", Cond.fieldLink RX3 55 "BranchNotes$State" "points" "I", Cond.fieldLink RX3 58 "BranchNotes$State" "series" "I", Cond.fieldLink RX3 61 "BranchNotes$State" "longestSeries" "I", Cond.methodLink RX3 44 yX0_copyFrom, Cond.instanceMethod yX0_copyFrom, Cond.selects RX0 yX0_copyFrom yX0_copyFrom]
def wsL_tryGo_r3 : List Cond := [Cond.initialized RX0, Cond.code yX0_copyFrom cX0_copyFrom 2 none, Cond.fieldLink RX0 9 "BranchNotes$Desk" "settings" "[I", Cond.methodLink RX0 30 arraycopyName, Cond.fieldLink RX0 15 "BranchNotes$Desk" "strengths" "[I", Cond.fieldLink RX0 18 "BranchNotes$Desk" "lastPlaces" "[I", Cond.fieldLink RX0 21 "BranchNotes$Desk" "uses" "[I", Cond.fieldLink RX0 24 "BranchNotes$Desk" "rights" "[I", Cond.fieldLink RX0 27 "BranchNotes$Desk" "paths" "[I", Cond.fieldLink RX0 36 "BranchNotes$Desk" "clashes" "I", Cond.fieldLink RX0 40 "BranchNotes$Desk" "right" "I", Cond.methodLink RX5 189 yX3_go, Cond.instanceMethod yX3_go, Cond.selects RX3 yX3_go yX3_go, Cond.code yX3_go cX3_go 7 (some .boolean), Cond.methodLink RX3 83 yX3_deskSays, Cond.instanceMethod yX3_deskSays, Cond.selects RX3 yX3_deskSays yX3_deskSays, Cond.code yX3_deskSays cX3_deskSays 4 (some .boolean), Cond.fieldLink RX3 80 "BranchNotes$Desk" "strengths" "[I", Cond.methodLink RX3 76 yX0_noteFor, Cond.instanceMethod yX0_noteFor, Cond.selects RX0 yX0_noteFor yX0_noteFor, Cond.code yX0_noteFor cX0_noteFor 5 (some .int)]
def wsL_tryGo_r4 : List Cond := [Cond.methodLink RX0 50 yX0_pathFor, Cond.instanceMethod yX0_pathFor, Cond.selects RX0 yX0_pathFor yX0_pathFor, Cond.code yX0_pathFor cX0_pathFor 2 (some .int), Cond.methodLink RX3 87 yX3_countGuess, Cond.instanceMethod yX3_countGuess, Cond.selects RX3 yX3_countGuess yX3_countGuess, Cond.code yX3_countGuess cX3_countGuess 4 none, Cond.methodLink RX3 115 Lib.Math.max.name, Cond.static Lib.Math.max.name, Cond.initialized "java/lang/Math", Cond.code Lib.Math.max.name Lib.Math.max.code 2 (some .int), Cond.methodLink RX3 91 yX3_moveChooser, Cond.instanceMethod yX3_moveChooser, Cond.selects RX3 yX3_moveChooser yX3_moveChooser, Cond.code yX3_moveChooser cX3_moveChooser 3 none, Cond.methodLink RX3 120 Lib.Math.min.name, Cond.static Lib.Math.min.name, Cond.code Lib.Math.min.name Lib.Math.min.code 2 (some .int), Cond.methodLink RX3 95 yX3_noteFor, Cond.instanceMethod yX3_noteFor, Cond.selects RX3 yX3_noteFor yX3_noteFor, Cond.code yX3_noteFor cX3_noteFor 3 (some .int), Cond.methodLink RX3 96 yX0_use]
def wsL_tryGo_r5 : List Cond := [Cond.instanceMethod yX0_use, Cond.selects RX0 yX0_use yX0_use, Cond.code yX0_use cX0_use 5 none, Cond.methodLink RX0 54 Lib.Math.min.name, Cond.methodLink RX0 60 Lib.Math.max.name, Cond.methodLink RX3 100 yX0_changePath, Cond.instanceMethod yX0_changePath, Cond.selects RX0 yX0_changePath yX0_changePath, Cond.code yX0_changePath cX0_changePath 4 none]
def wsL_tryGo : List Cond := .codeWith yL_tryGo cL_tryGo 4 (some .int) [(0, 14, 15, 24)] :: ((wsL_tryGo_r1 ++ (wsL_tryGo_r2 ++ (wsL_tryGo_r3 ++ (wsL_tryGo_r4 ++ wsL_tryGo_r5)))) ++ wsX50 ++ wsX10 ++ wsX30 ++ wsX00 ++ (vx_atS RX5 269 "java/lang/IndexOutOfBoundsException" ["java/lang/RuntimeException", "java/lang/Exception"]).filter goodWord)
def wsL_tryAppend : List Cond := .codeWith yL_tryAppend cL_tryAppend 3 (some .int) [(0, 5, 6, 13), (0, 5, 10, 31)] :: ([.classLink RL 13 "java/lang/IllegalArgumentException", .classLink RL 31 "java/lang/IllegalStateException", .constant RL 15 (-9999002), .constant RL 33 (-9999003), .methodLink RL 27 yX5_append, .instanceMethod yX5_append, .selects RX5 yX5_append yX5_append, .initialized RX5, .code yX5_append cX5_append 2 (some .int), .classLink RX5 41 "java/lang/IllegalArgumentException", .initialized "java/lang/IllegalArgumentException", .classLink RX5 52 "java/lang/IllegalStateException", .initialized "java/lang/IllegalStateException", .fieldLink RX5 10 "BranchNotes" "text" "LBranchNotes$Text;", .fieldLink RX5 57 "BranchNotes$Text" "length" "I", .methodLink RX5 48 yX4_add, .instanceMethod yX4_add, .selects RX4 yX4_add yX4_add, .initialized RX4, .code yX4_add cX4_add 2 (some .boolean), .fieldLink RX4 21 "BranchNotes$Text" "length" "I", .fieldLink RX4 11 "BranchNotes$Text" "codes" "[I"] ++ wsX50 ++ wsX40 ++ (vx_atS RX5 45 "java/lang/IllegalArgumentException" ["java/lang/RuntimeException", "java/lang/Exception"]).filter goodWord ++ (vx_atS RX5 56 "java/lang/IllegalStateException" ["java/lang/RuntimeException", "java/lang/Exception"]).filter goodWord)
def wsL_tryAbout : List Cond := .codeWith yL_tryAbout cL_tryAbout 3 (some .int) [(0, 5, 6, 13)] :: ([.classLink RL 13 "java/lang/IllegalArgumentException", .constant RL 15 (-9999002), .methodLink RL 34 yX5_about, .instanceMethod yX5_about, .selects RX5 yX5_about yX5_about, .initialized RX5, .code yX5_about cX5_about 2 (some .int), .classLink RX5 41 "java/lang/IllegalArgumentException", .initialized "java/lang/IllegalArgumentException", .fieldLink RX5 19 "BranchNotes" "state" "LBranchNotes$State;", .fieldLink RX5 69 "BranchNotes$State" "gone" "I", .fieldLink RX5 72 "BranchNotes$State" "right" "I", .fieldLink RX5 75 "BranchNotes$State" "points" "I", .fieldLink RX5 78 "BranchNotes$State" "desks" "[LBranchNotes$Desk;", .fieldLink RX5 82 "BranchNotes$Desk" "clashes" "I", .fieldLink RX5 87 "BranchNotes$State" "series" "I", .fieldLink RX5 90 "BranchNotes$State" "longestSeries" "I", .fieldLink RX5 93 "BranchNotes$State" "settings" "[I"] ++ wsX50 ++ wsX30 ++ wsX00 ++ (vx_atS RX5 45 "java/lang/IllegalArgumentException" ["java/lang/RuntimeException", "java/lang/Exception"]).filter goodWord)
def wsL_tryDesk_r1 : List Cond := [Cond.classLink RL 24 "java/lang/IndexOutOfBoundsException", Cond.classLink RL 13 "java/lang/IllegalArgumentException", Cond.constant RL 26 (-9999001), Cond.constant RL 15 (-9999002), Cond.methodLink RL 37 yX5_desk, Cond.instanceMethod yX5_desk, Cond.selects RX5 yX5_desk yX5_desk, Cond.initialized RX5, Cond.code yX5_desk cX5_desk 4 (some .int), Cond.classLink RX5 41 "java/lang/IllegalArgumentException", Cond.initialized "java/lang/IllegalArgumentException", Cond.fieldLink RX5 19 "BranchNotes" "state" "LBranchNotes$State;", Cond.fieldLink RX5 78 "BranchNotes$State" "desks" "[LBranchNotes$Desk;", Cond.fieldLink RX5 103 "BranchNotes$Desk" "settings" "[I", Cond.fieldLink RX5 104 "BranchNotes$Desk" "right" "I", Cond.methodLink RX5 99 yX5_checkDesk, Cond.static yX5_checkDesk, Cond.code yX5_checkDesk cX5_checkDesk 1 none, Cond.classLink RX5 265 "java/lang/IndexOutOfBoundsException", Cond.initialized "java/lang/IndexOutOfBoundsException", Cond.methodLink RX5 262 yX5_isDesk, Cond.static yX5_isDesk, Cond.code yX5_isDesk cX5_isDesk 1 (some .boolean), Cond.methodLink RX5 105 yX0_countUsed]
def wsL_tryDesk_r2 : List Cond := [Cond.instanceMethod yX0_countUsed, Cond.selects RX0 yX0_countUsed yX0_countUsed, Cond.initialized RX0, Cond.code yX0_countUsed cX0_countUsed 3 (some .int), Cond.fieldLink RX0 21 "BranchNotes$Desk" "uses" "[I"]
def wsL_tryDesk : List Cond := .codeWith yL_tryDesk cL_tryDesk 4 (some .int) [(0, 6, 7, 24), (0, 6, 11, 13)] :: ((wsL_tryDesk_r1 ++ wsL_tryDesk_r2) ++ wsX50 ++ wsX30 ++ wsX00 ++ (vx_atS RX5 45 "java/lang/IllegalArgumentException" ["java/lang/RuntimeException", "java/lang/Exception"]).filter goodWord ++ (vx_atS RX5 269 "java/lang/IndexOutOfBoundsException" ["java/lang/RuntimeException", "java/lang/Exception"]).filter goodWord)
def wsL_tryNote_r1 : List Cond := [Cond.classLink RL 24 "java/lang/IndexOutOfBoundsException", Cond.classLink RL 13 "java/lang/IllegalArgumentException", Cond.constant RL 26 (-9999001), Cond.constant RL 15 (-9999002), Cond.methodLink RL 41 yX5_note, Cond.instanceMethod yX5_note, Cond.selects RX5 yX5_note yX5_note, Cond.initialized RX5, Cond.code yX5_note cX5_note 5 (some .int), Cond.classLink RX5 41 "java/lang/IllegalArgumentException", Cond.initialized "java/lang/IllegalArgumentException", Cond.fieldLink RX5 19 "BranchNotes" "state" "LBranchNotes$State;", Cond.fieldLink RX5 78 "BranchNotes$State" "desks" "[LBranchNotes$Desk;", Cond.fieldLink RX5 113 "BranchNotes$Desk" "strengths" "[I", Cond.fieldLink RX5 116 "BranchNotes$Desk" "lastPlaces" "[I", Cond.fieldLink RX5 119 "BranchNotes$Desk" "uses" "[I", Cond.fieldLink RX5 122 "BranchNotes$Desk" "rights" "[I", Cond.methodLink RX5 99 yX5_checkDesk, Cond.static yX5_checkDesk, Cond.code yX5_checkDesk cX5_checkDesk 1 none, Cond.classLink RX5 265 "java/lang/IndexOutOfBoundsException", Cond.initialized "java/lang/IndexOutOfBoundsException", Cond.methodLink RX5 262 yX5_isDesk, Cond.static yX5_isDesk]
def wsL_tryNote_r2 : List Cond := [Cond.code yX5_isDesk cX5_isDesk 1 (some .boolean), Cond.methodLink RX5 110 yX5_checkNote, Cond.instanceMethod yX5_checkNote, Cond.selects RX5 yX5_checkNote yX5_checkNote, Cond.code yX5_checkNote cX5_checkNote 2 none, Cond.methodLink RX5 277 yX3_isNote, Cond.instanceMethod yX3_isNote, Cond.selects RX3 yX3_isNote yX3_isNote, Cond.initialized RX3, Cond.code yX3_isNote cX3_isNote 2 (some .boolean), Cond.fieldLink RX3 9 "BranchNotes$State" "settings" "[I"]
def wsL_tryNote : List Cond := .codeWith yL_tryNote cL_tryNote 5 (some .int) [(0, 7, 8, 24), (0, 7, 13, 13)] :: ((wsL_tryNote_r1 ++ wsL_tryNote_r2) ++ wsX50 ++ wsX30 ++ wsX00 ++ (vx_atS RX5 45 "java/lang/IllegalArgumentException" ["java/lang/RuntimeException", "java/lang/Exception"]).filter goodWord ++ (vx_atS RX5 269 "java/lang/IndexOutOfBoundsException" ["java/lang/RuntimeException", "java/lang/Exception"]).filter goodWord)
def wsL_tryPlace_r1 : List Cond := [Cond.classLink RL 24 "java/lang/IndexOutOfBoundsException", Cond.classLink RL 13 "java/lang/IllegalArgumentException", Cond.constant RL 26 (-9999001), Cond.constant RL 15 (-9999002), Cond.methodLink RL 45 yX5_place, Cond.instanceMethod yX5_place, Cond.selects RX5 yX5_place yX5_place, Cond.initialized RX5, Cond.code yX5_place cX5_place 3 (some .int), Cond.classLink RX5 41 "java/lang/IllegalArgumentException", Cond.initialized "java/lang/IllegalArgumentException", Cond.fieldLink RX5 19 "BranchNotes" "state" "LBranchNotes$State;", Cond.fieldLink RX5 130 "BranchNotes$State" "goneAt" "[I", Cond.fieldLink RX5 133 "BranchNotes$State" "takenAt" "[I", Cond.fieldLink RX5 136 "BranchNotes$State" "rightAt" "[I", Cond.fieldLink RX5 139 "BranchNotes$State" "choosers" "[I", Cond.methodLink RX5 127 yX5_checkPlace, Cond.static yX5_checkPlace, Cond.code yX5_checkPlace cX5_checkPlace 1 none, Cond.classLink RX5 265 "java/lang/IndexOutOfBoundsException", Cond.initialized "java/lang/IndexOutOfBoundsException", Cond.methodLink RX5 270 yX5_isPlace, Cond.static yX5_isPlace, Cond.code yX5_isPlace cX5_isPlace 1 (some .boolean)]
def wsL_tryPlace_r2 : List Cond := [Cond.methodLink RX5 142 yX3_guessFor, Cond.instanceMethod yX3_guessFor, Cond.selects RX3 yX3_guessFor yX3_guessFor, Cond.initialized RX3, Cond.code yX3_guessFor cX3_guessFor 2 (some .boolean), Cond.fieldLink RX3 21 "BranchNotes$State" "choosers" "[I", Cond.methodLink RX3 83 yX3_deskSays, Cond.instanceMethod yX3_deskSays, Cond.selects RX3 yX3_deskSays yX3_deskSays, Cond.code yX3_deskSays cX3_deskSays 4 (some .boolean), Cond.fieldLink RX3 17 "BranchNotes$State" "desks" "[LBranchNotes$Desk;", Cond.fieldLink RX3 80 "BranchNotes$Desk" "strengths" "[I", Cond.fieldLink RX3 9 "BranchNotes$State" "settings" "[I", Cond.methodLink RX3 76 yX0_noteFor, Cond.instanceMethod yX0_noteFor, Cond.selects RX0 yX0_noteFor yX0_noteFor, Cond.initialized RX0, Cond.code yX0_noteFor cX0_noteFor 5 (some .int), Cond.fieldLink RX0 9 "BranchNotes$Desk" "settings" "[I", Cond.methodLink RX0 50 yX0_pathFor, Cond.instanceMethod yX0_pathFor, Cond.selects RX0 yX0_pathFor yX0_pathFor, Cond.code yX0_pathFor cX0_pathFor 2 (some .int), Cond.fieldLink RX0 27 "BranchNotes$Desk" "paths" "[I"]
def wsL_tryPlace : List Cond := .codeWith yL_tryPlace cL_tryPlace 4 (some .int) [(0, 6, 7, 24), (0, 6, 11, 13)] :: ((wsL_tryPlace_r1 ++ wsL_tryPlace_r2) ++ wsX50 ++ wsX30 ++ wsX00 ++ (vx_atS RX5 45 "java/lang/IllegalArgumentException" ["java/lang/RuntimeException", "java/lang/Exception"]).filter goodWord ++ (vx_atS RX5 269 "java/lang/IndexOutOfBoundsException" ["java/lang/RuntimeException", "java/lang/Exception"]).filter goodWord)
def wsL_tryPath_r1 : List Cond := [Cond.classLink RL 24 "java/lang/IndexOutOfBoundsException", Cond.constant RL 26 (-9999001), Cond.methodLink RL 48 yX5_path, Cond.instanceMethod yX5_path, Cond.selects RX5 yX5_path yX5_path, Cond.initialized RX5, Cond.code yX5_path cX5_path 3 (some .int), Cond.fieldLink RX5 19 "BranchNotes" "state" "LBranchNotes$State;", Cond.fieldLink RX5 78 "BranchNotes$State" "desks" "[LBranchNotes$Desk;", Cond.methodLink RX5 99 yX5_checkDesk, Cond.static yX5_checkDesk, Cond.code yX5_checkDesk cX5_checkDesk 1 none, Cond.classLink RX5 265 "java/lang/IndexOutOfBoundsException", Cond.initialized "java/lang/IndexOutOfBoundsException", Cond.methodLink RX5 262 yX5_isDesk, Cond.static yX5_isDesk, Cond.code yX5_isDesk cX5_isDesk 1 (some .boolean), Cond.methodLink RX5 127 yX5_checkPlace, Cond.static yX5_checkPlace, Cond.code yX5_checkPlace cX5_checkPlace 1 none, Cond.methodLink RX5 270 yX5_isPlace, Cond.static yX5_isPlace, Cond.code yX5_isPlace cX5_isPlace 1 (some .boolean), Cond.methodLink RX5 147 yX0_pathFor]
def wsL_tryPath_r2 : List Cond := [Cond.instanceMethod yX0_pathFor, Cond.selects RX0 yX0_pathFor yX0_pathFor, Cond.initialized RX0, Cond.code yX0_pathFor cX0_pathFor 2 (some .int), Cond.fieldLink RX0 27 "BranchNotes$Desk" "paths" "[I", Cond.fieldLink RX0 9 "BranchNotes$Desk" "settings" "[I"]
def wsL_tryPath : List Cond := .codeWith yL_tryPath cL_tryPath 4 (some .int) [(0, 6, 7, 24)] :: ((wsL_tryPath_r1 ++ wsL_tryPath_r2) ++ wsX50 ++ wsX30 ++ wsX00 ++ (vx_atS RX5 269 "java/lang/IndexOutOfBoundsException" ["java/lang/RuntimeException", "java/lang/Exception"]).filter goodWord)
def wsL_tryNumber_r1 : List Cond := [Cond.classLink RL 24 "java/lang/IndexOutOfBoundsException", Cond.constant RL 26 (-9999001), Cond.methodLink RL 51 yX5_noteOf, Cond.instanceMethod yX5_noteOf, Cond.selects RX5 yX5_noteOf yX5_noteOf, Cond.initialized RX5, Cond.code yX5_noteOf cX5_noteOf 3 (some .int), Cond.fieldLink RX5 19 "BranchNotes" "state" "LBranchNotes$State;", Cond.methodLink RX5 99 yX5_checkDesk, Cond.static yX5_checkDesk, Cond.code yX5_checkDesk cX5_checkDesk 1 none, Cond.classLink RX5 265 "java/lang/IndexOutOfBoundsException", Cond.initialized "java/lang/IndexOutOfBoundsException", Cond.methodLink RX5 262 yX5_isDesk, Cond.static yX5_isDesk, Cond.code yX5_isDesk cX5_isDesk 1 (some .boolean), Cond.methodLink RX5 127 yX5_checkPlace, Cond.static yX5_checkPlace, Cond.code yX5_checkPlace cX5_checkPlace 1 none, Cond.methodLink RX5 270 yX5_isPlace, Cond.static yX5_isPlace, Cond.code yX5_isPlace cX5_isPlace 1 (some .boolean), Cond.methodLink RX5 151 yX3_noteFor, Cond.instanceMethod yX3_noteFor]
def wsL_tryNumber_r2 : List Cond := [Cond.selects RX3 yX3_noteFor yX3_noteFor, Cond.initialized RX3, Cond.code yX3_noteFor cX3_noteFor 3 (some .int), Cond.fieldLink RX3 17 "BranchNotes$State" "desks" "[LBranchNotes$Desk;", Cond.fieldLink RX3 9 "BranchNotes$State" "settings" "[I", Cond.methodLink RX3 76 yX0_noteFor, Cond.instanceMethod yX0_noteFor, Cond.selects RX0 yX0_noteFor yX0_noteFor, Cond.initialized RX0, Cond.code yX0_noteFor cX0_noteFor 5 (some .int), Cond.fieldLink RX0 9 "BranchNotes$Desk" "settings" "[I", Cond.methodLink RX0 50 yX0_pathFor, Cond.instanceMethod yX0_pathFor, Cond.selects RX0 yX0_pathFor yX0_pathFor, Cond.code yX0_pathFor cX0_pathFor 2 (some .int), Cond.fieldLink RX0 27 "BranchNotes$Desk" "paths" "[I"]
def wsL_tryNumber : List Cond := .codeWith yL_tryNumber cL_tryNumber 4 (some .int) [(0, 6, 7, 24)] :: ((wsL_tryNumber_r1 ++ wsL_tryNumber_r2) ++ wsX50 ++ wsX30 ++ wsX00 ++ (vx_atS RX5 269 "java/lang/IndexOutOfBoundsException" ["java/lang/RuntimeException", "java/lang/Exception"]).filter goodWord)
def wsL_tryShare : List Cond := .codeWith yL_tryShare cL_tryShare 3 (some .int) [(0, 5, 6, 24)] :: ([.classLink RL 24 "java/lang/IndexOutOfBoundsException", .constant RL 26 (-9999001), .methodLink RL 54 yX5_share, .instanceMethod yX5_share, .selects RX5 yX5_share yX5_share, .initialized RX5, .code yX5_share cX5_share 3 (some .int), .fieldLink RX5 19 "BranchNotes" "state" "LBranchNotes$State;", .fieldLink RX5 130 "BranchNotes$State" "goneAt" "[I", .fieldLink RX5 133 "BranchNotes$State" "takenAt" "[I", .constant RX5 65 (-99999), .methodLink RX5 127 yX5_checkPlace, .static yX5_checkPlace, .code yX5_checkPlace cX5_checkPlace 1 none, .classLink RX5 265 "java/lang/IndexOutOfBoundsException", .initialized "java/lang/IndexOutOfBoundsException", .methodLink RX5 270 yX5_isPlace, .static yX5_isPlace, .code yX5_isPlace cX5_isPlace 1 (some .boolean), .methodLink RX5 155 yX5_quotientBits, .static yX5_quotientBits, .code yX5_quotientBits cX5_quotientBits 7 (some .int), .constantLong RX5 282 (2)] ++ wsX50 ++ wsX30 ++ (vx_atS RX5 269 "java/lang/IndexOutOfBoundsException" ["java/lang/RuntimeException", "java/lang/Exception"]).filter goodWord)
def wsL_tryTune_r1 : List Cond := [Cond.classLink RL 24 "java/lang/IndexOutOfBoundsException", Cond.classLink RL 13 "java/lang/IllegalArgumentException", Cond.constant RL 26 (-9999001), Cond.constant RL 15 (-9999002), Cond.methodLink RL 57 yX5_setDesk, Cond.instanceMethod yX5_setDesk, Cond.selects RX5 yX5_setDesk yX5_setDesk, Cond.initialized RX5, Cond.code yX5_setDesk cX5_setDesk 5 (some .int), Cond.classLink RX5 41 "java/lang/IllegalArgumentException", Cond.initialized "java/lang/IllegalArgumentException", Cond.fieldLink RX5 29 "BranchNotes" "history" "LBranchNotes$History;", Cond.fieldLink RX5 19 "BranchNotes" "state" "LBranchNotes$State;", Cond.fieldLink RX5 78 "BranchNotes$State" "desks" "[LBranchNotes$Desk;", Cond.fieldLink RX5 103 "BranchNotes$Desk" "settings" "[I", Cond.methodLink RX5 99 yX5_checkDesk, Cond.static yX5_checkDesk, Cond.code yX5_checkDesk cX5_checkDesk 1 none, Cond.classLink RX5 265 "java/lang/IndexOutOfBoundsException", Cond.initialized "java/lang/IndexOutOfBoundsException", Cond.methodLink RX5 262 yX5_isDesk, Cond.static yX5_isDesk, Cond.code yX5_isDesk cX5_isDesk 1 (some .boolean), Cond.methodLink RX5 158 yX5_isDeskSetting]
def wsL_tryTune_r2 : List Cond := [Cond.static yX5_isDeskSetting, Cond.code yX5_isDeskSetting cX5_isDeskSetting 2 (some .boolean), Cond.fieldLink RX5 253 "BranchNotes" "DESK_MOST" "[I", Cond.methodLink RX5 164 yX1_remember, Cond.instanceMethod yX1_remember, Cond.selects RX1 yX1_remember yX1_remember, Cond.initialized RX1, Cond.code yX1_remember cX1_remember 2 none, Cond.fieldLink RX1 16 "BranchNotes$History" "count" "I", Cond.fieldLink RX1 20 "BranchNotes$History" "oldest" "I", Cond.fieldLink RX1 11 "BranchNotes$History" "ring" "[LBranchNotes$State;", Cond.methodLink RX1 23 yX3_copyFrom, Cond.instanceMethod yX3_copyFrom, Cond.selects RX3 yX3_copyFrom yX3_copyFrom, Cond.initialized RX3, Cond.code yX3_copyFrom cX3_copyFrom 3 none, Cond.fieldLink RX3 9 "BranchNotes$State" "settings" "[I", Cond.methodLink RX3 38 arraycopyName, Cond.native arraycopyName, Cond.static arraycopyName, Cond.initialized "java/lang/System", Cond.fieldLink RX3 17 "BranchNotes$State" "desks" "[LBranchNotes$Desk;", Cond.fieldLink RX3 21 "BranchNotes$State" "choosers" "[I", Cond.fieldLink RX3 24 "BranchNotes$State" "goneAt" "[I"]
def wsL_tryTune_r3 : List Cond := [Cond.fieldLink RX3 27 "BranchNotes$State" "takenAt" "[I", Cond.fieldLink RX3 30 "BranchNotes$State" "rightAt" "[I", Cond.fieldLink RX3 48 "BranchNotes$State" "gone" "I", Cond.fieldLink RX3 52 "BranchNotes$State" "right" "I", Cond.fieldLink RX3 55 "BranchNotes$State" "points" "I", Cond.fieldLink RX3 58 "BranchNotes$State" "series" "I", Cond.fieldLink RX3 61 "BranchNotes$State" "longestSeries" "I", Cond.methodLink RX3 44 yX0_copyFrom, Cond.instanceMethod yX0_copyFrom, Cond.selects RX0 yX0_copyFrom yX0_copyFrom, Cond.initialized RX0, Cond.code yX0_copyFrom cX0_copyFrom 2 none, Cond.fieldLink RX0 9 "BranchNotes$Desk" "settings" "[I", Cond.methodLink RX0 30 arraycopyName, Cond.fieldLink RX0 15 "BranchNotes$Desk" "strengths" "[I", Cond.fieldLink RX0 18 "BranchNotes$Desk" "lastPlaces" "[I", Cond.fieldLink RX0 21 "BranchNotes$Desk" "uses" "[I", Cond.fieldLink RX0 24 "BranchNotes$Desk" "rights" "[I", Cond.fieldLink RX0 27 "BranchNotes$Desk" "paths" "[I", Cond.fieldLink RX0 36 "BranchNotes$Desk" "clashes" "I", Cond.fieldLink RX0 40 "BranchNotes$Desk" "right" "I", Cond.methodLink RX5 168 yX3_changeDesk, Cond.instanceMethod yX3_changeDesk, Cond.selects RX3 yX3_changeDesk yX3_changeDesk]
def wsL_tryTune_r4 : List Cond := [Cond.code yX3_changeDesk cX3_changeDesk 4 none, Cond.fieldLink RX3 34 "BranchNotes$Desk" "settings" "[I", Cond.methodLink RX3 35 yX3_beginAnew, Cond.instanceMethod yX3_beginAnew, Cond.selects RX3 yX3_beginAnew yX3_beginAnew, Cond.code yX3_beginAnew cX3_beginAnew 2 none, Cond.methodLink RX3 64 yX0_beginAnew, Cond.instanceMethod yX0_beginAnew, Cond.selects RX0 yX0_beginAnew yX0_beginAnew, Cond.code yX0_beginAnew cX0_beginAnew 2 none, Cond.constant RX0 49 (-99999), Cond.methodLink RX0 43 yJ7_fill_53178, Cond.static yJ7_fill_53178, Cond.initialized RJ7, Cond.code yJ7_fill_53178 cJ7_fill_53178 4 none, Cond.methodLink RX3 67 yJ7_fill_53178]
def wsL_tryTune : List Cond := .codeWith yL_tryTune cL_tryTune 5 (some .int) [(0, 7, 8, 24), (0, 7, 13, 13)] :: ((wsL_tryTune_r1 ++ (wsL_tryTune_r2 ++ (wsL_tryTune_r3 ++ wsL_tryTune_r4))) ++ wsX50 ++ wsX30 ++ wsX00 ++ wsX10 ++ (vx_atS RX5 45 "java/lang/IllegalArgumentException" ["java/lang/RuntimeException", "java/lang/Exception"]).filter goodWord ++ (vx_atS RX5 269 "java/lang/IndexOutOfBoundsException" ["java/lang/RuntimeException", "java/lang/Exception"]).filter goodWord)
def wsL_trySet_r1 : List Cond := [Cond.classLink RL 13 "java/lang/IllegalArgumentException", Cond.constant RL 15 (-9999002), Cond.methodLink RL 60 yX5_set, Cond.instanceMethod yX5_set, Cond.selects RX5 yX5_set yX5_set, Cond.initialized RX5, Cond.code yX5_set cX5_set 4 (some .int), Cond.classLink RX5 41 "java/lang/IllegalArgumentException", Cond.initialized "java/lang/IllegalArgumentException", Cond.fieldLink RX5 29 "BranchNotes" "history" "LBranchNotes$History;", Cond.fieldLink RX5 19 "BranchNotes" "state" "LBranchNotes$State;", Cond.fieldLink RX5 93 "BranchNotes$State" "settings" "[I", Cond.methodLink RX5 172 yX5_isCommonSetting, Cond.static yX5_isCommonSetting, Cond.code yX5_isCommonSetting cX5_isCommonSetting 2 (some .boolean), Cond.fieldLink RX5 256 "BranchNotes" "COMMON_LEAST" "[I", Cond.fieldLink RX5 259 "BranchNotes" "COMMON_MOST" "[I", Cond.methodLink RX5 164 yX1_remember, Cond.instanceMethod yX1_remember, Cond.selects RX1 yX1_remember yX1_remember, Cond.initialized RX1, Cond.code yX1_remember cX1_remember 2 none, Cond.fieldLink RX1 16 "BranchNotes$History" "count" "I", Cond.fieldLink RX1 20 "BranchNotes$History" "oldest" "I"]
def wsL_trySet_r2 : List Cond := [Cond.fieldLink RX1 11 "BranchNotes$History" "ring" "[LBranchNotes$State;", Cond.methodLink RX1 23 yX3_copyFrom, Cond.instanceMethod yX3_copyFrom, Cond.selects RX3 yX3_copyFrom yX3_copyFrom, Cond.initialized RX3, Cond.code yX3_copyFrom cX3_copyFrom 3 none, Cond.fieldLink RX3 9 "BranchNotes$State" "settings" "[I", Cond.methodLink RX3 38 arraycopyName, Cond.native arraycopyName, Cond.static arraycopyName, Cond.initialized "java/lang/System", Cond.fieldLink RX3 17 "BranchNotes$State" "desks" "[LBranchNotes$Desk;", Cond.fieldLink RX3 21 "BranchNotes$State" "choosers" "[I", Cond.fieldLink RX3 24 "BranchNotes$State" "goneAt" "[I", Cond.fieldLink RX3 27 "BranchNotes$State" "takenAt" "[I", Cond.fieldLink RX3 30 "BranchNotes$State" "rightAt" "[I", Cond.fieldLink RX3 48 "BranchNotes$State" "gone" "I", Cond.fieldLink RX3 52 "BranchNotes$State" "right" "I", Cond.fieldLink RX3 55 "BranchNotes$State" "points" "I", Cond.fieldLink RX3 58 "BranchNotes$State" "series" "I", Cond.fieldLink RX3 61 "BranchNotes$State" "longestSeries" "I", Cond.methodLink RX3 44 yX0_copyFrom, Cond.instanceMethod yX0_copyFrom, Cond.selects RX0 yX0_copyFrom yX0_copyFrom]
def wsL_trySet_r3 : List Cond := [Cond.initialized RX0, Cond.code yX0_copyFrom cX0_copyFrom 2 none, Cond.fieldLink RX0 9 "BranchNotes$Desk" "settings" "[I", Cond.methodLink RX0 30 arraycopyName, Cond.fieldLink RX0 15 "BranchNotes$Desk" "strengths" "[I", Cond.fieldLink RX0 18 "BranchNotes$Desk" "lastPlaces" "[I", Cond.fieldLink RX0 21 "BranchNotes$Desk" "uses" "[I", Cond.fieldLink RX0 24 "BranchNotes$Desk" "rights" "[I", Cond.fieldLink RX0 27 "BranchNotes$Desk" "paths" "[I", Cond.fieldLink RX0 36 "BranchNotes$Desk" "clashes" "I", Cond.fieldLink RX0 40 "BranchNotes$Desk" "right" "I", Cond.methodLink RX5 177 yX3_changeBoth, Cond.instanceMethod yX3_changeBoth, Cond.selects RX3 yX3_changeBoth yX3_changeBoth, Cond.code yX3_changeBoth cX3_changeBoth 3 none, Cond.methodLink RX3 35 yX3_beginAnew, Cond.instanceMethod yX3_beginAnew, Cond.selects RX3 yX3_beginAnew yX3_beginAnew, Cond.code yX3_beginAnew cX3_beginAnew 2 none, Cond.methodLink RX3 64 yX0_beginAnew, Cond.instanceMethod yX0_beginAnew, Cond.selects RX0 yX0_beginAnew yX0_beginAnew, Cond.code yX0_beginAnew cX0_beginAnew 2 none, Cond.constant RX0 49 (-99999)]
def wsL_trySet_r4 : List Cond := [Cond.methodLink RX0 43 yJ7_fill_53178, Cond.static yJ7_fill_53178, Cond.initialized RJ7, Cond.code yJ7_fill_53178 cJ7_fill_53178 4 none, Cond.methodLink RX3 67 yJ7_fill_53178]
def wsL_trySet : List Cond := .codeWith yL_trySet cL_trySet 4 (some .int) [(0, 6, 7, 13)] :: ((wsL_trySet_r1 ++ (wsL_trySet_r2 ++ (wsL_trySet_r3 ++ wsL_trySet_r4))) ++ wsX50 ++ wsX30 ++ wsX10 ++ wsX00 ++ (vx_atS RX5 45 "java/lang/IllegalArgumentException" ["java/lang/RuntimeException", "java/lang/Exception"]).filter goodWord)
def wsL_tryGrow_r1 : List Cond := [Cond.classLink RL 24 "java/lang/IndexOutOfBoundsException", Cond.classLink RL 13 "java/lang/IllegalArgumentException", Cond.constant RL 26 (-9999001), Cond.constant RL 15 (-9999002), Cond.methodLink RL 63 yX5_strengthen, Cond.instanceMethod yX5_strengthen, Cond.selects RX5 yX5_strengthen yX5_strengthen, Cond.initialized RX5, Cond.code yX5_strengthen cX5_strengthen 5 (some .int), Cond.classLink RX5 41 "java/lang/IllegalArgumentException", Cond.initialized "java/lang/IllegalArgumentException", Cond.fieldLink RX5 19 "BranchNotes" "state" "LBranchNotes$State;", Cond.fieldLink RX5 29 "BranchNotes" "history" "LBranchNotes$History;", Cond.fieldLink RX5 78 "BranchNotes$State" "desks" "[LBranchNotes$Desk;", Cond.fieldLink RX5 113 "BranchNotes$Desk" "strengths" "[I", Cond.methodLink RX5 99 yX5_checkDesk, Cond.static yX5_checkDesk, Cond.code yX5_checkDesk cX5_checkDesk 1 none, Cond.classLink RX5 265 "java/lang/IndexOutOfBoundsException", Cond.initialized "java/lang/IndexOutOfBoundsException", Cond.methodLink RX5 262 yX5_isDesk, Cond.static yX5_isDesk, Cond.code yX5_isDesk cX5_isDesk 1 (some .boolean), Cond.methodLink RX5 110 yX5_checkNote]
def wsL_tryGrow_r2 : List Cond := [Cond.instanceMethod yX5_checkNote, Cond.selects RX5 yX5_checkNote yX5_checkNote, Cond.code yX5_checkNote cX5_checkNote 2 none, Cond.methodLink RX5 277 yX3_isNote, Cond.instanceMethod yX3_isNote, Cond.selects RX3 yX3_isNote yX3_isNote, Cond.initialized RX3, Cond.code yX3_isNote cX3_isNote 2 (some .boolean), Cond.fieldLink RX3 9 "BranchNotes$State" "settings" "[I", Cond.methodLink RX5 184 yX3_isStrength, Cond.instanceMethod yX3_isStrength, Cond.selects RX3 yX3_isStrength yX3_isStrength, Cond.code yX3_isStrength cX3_isStrength 2 (some .boolean), Cond.methodLink RX5 164 yX1_remember, Cond.instanceMethod yX1_remember, Cond.selects RX1 yX1_remember yX1_remember, Cond.initialized RX1, Cond.code yX1_remember cX1_remember 2 none, Cond.fieldLink RX1 16 "BranchNotes$History" "count" "I", Cond.fieldLink RX1 20 "BranchNotes$History" "oldest" "I", Cond.fieldLink RX1 11 "BranchNotes$History" "ring" "[LBranchNotes$State;", Cond.methodLink RX1 23 yX3_copyFrom, Cond.instanceMethod yX3_copyFrom, Cond.selects RX3 yX3_copyFrom yX3_copyFrom]
def wsL_tryGrow_r3 : List Cond := [Cond.code yX3_copyFrom cX3_copyFrom 3 none, Cond.methodLink RX3 38 arraycopyName, Cond.native arraycopyName, Cond.static arraycopyName, Cond.initialized "java/lang/System", Cond.fieldLink RX3 17 "BranchNotes$State" "desks" "[LBranchNotes$Desk;", Cond.fieldLink RX3 21 "BranchNotes$State" "choosers" "[I", Cond.fieldLink RX3 24 "BranchNotes$State" "goneAt" "[I", Cond.fieldLink RX3 27 "BranchNotes$State" "takenAt" "[I", Cond.fieldLink RX3 30 "BranchNotes$State" "rightAt" "[I", Cond.fieldLink RX3 48 "BranchNotes$State" "gone" "I", Cond.fieldLink RX3 52 "BranchNotes$State" "right" "I", Cond.fieldLink RX3 55 "BranchNotes$State" "points" "I", Cond.fieldLink RX3 58 "BranchNotes$State" "series" "I", Cond.fieldLink RX3 61 "BranchNotes$State" "longestSeries" "I", Cond.methodLink RX3 44 yX0_copyFrom, Cond.instanceMethod yX0_copyFrom, Cond.selects RX0 yX0_copyFrom yX0_copyFrom, Cond.initialized RX0, Cond.code yX0_copyFrom cX0_copyFrom 2 none, Cond.fieldLink RX0 9 "BranchNotes$Desk" "settings" "[I", Cond.methodLink RX0 30 arraycopyName, Cond.fieldLink RX0 15 "BranchNotes$Desk" "strengths" "[I", Cond.fieldLink RX0 18 "BranchNotes$Desk" "lastPlaces" "[I"]
def wsL_tryGrow_r4 : List Cond := [Cond.fieldLink RX0 21 "BranchNotes$Desk" "uses" "[I", Cond.fieldLink RX0 24 "BranchNotes$Desk" "rights" "[I", Cond.fieldLink RX0 27 "BranchNotes$Desk" "paths" "[I", Cond.fieldLink RX0 36 "BranchNotes$Desk" "clashes" "I", Cond.fieldLink RX0 40 "BranchNotes$Desk" "right" "I"]
def wsL_tryGrow : List Cond := .codeWith yL_tryGrow cL_tryGrow 5 (some .int) [(0, 7, 8, 24), (0, 7, 13, 13)] :: ((wsL_tryGrow_r1 ++ (wsL_tryGrow_r2 ++ (wsL_tryGrow_r3 ++ wsL_tryGrow_r4))) ++ wsX50 ++ wsX30 ++ wsX00 ++ wsX10 ++ (vx_atS RX5 45 "java/lang/IllegalArgumentException" ["java/lang/RuntimeException", "java/lang/Exception"]).filter goodWord ++ (vx_atS RX5 269 "java/lang/IndexOutOfBoundsException" ["java/lang/RuntimeException", "java/lang/Exception"]).filter goodWord)
def wsL_tryPlay_r1 : List Cond := [Cond.classLink RL 31 "java/lang/IllegalStateException", Cond.constant RL 33 (-9999003), Cond.methodLink RL 66 yX5_play, Cond.instanceMethod yX5_play, Cond.selects RX5 yX5_play yX5_play, Cond.initialized RX5, Cond.code yX5_play cX5_play 2 (some .int), Cond.classLink RX5 52 "java/lang/IllegalStateException", Cond.initialized "java/lang/IllegalStateException", Cond.fieldLink RX5 10 "BranchNotes" "text" "LBranchNotes$Text;", Cond.fieldLink RX5 29 "BranchNotes" "history" "LBranchNotes$History;", Cond.fieldLink RX5 19 "BranchNotes" "state" "LBranchNotes$State;", Cond.fieldLink RX5 72 "BranchNotes$State" "right" "I", Cond.methodLink RX5 193 yX4_isPlayable, Cond.instanceMethod yX4_isPlayable, Cond.selects RX4 yX4_isPlayable yX4_isPlayable, Cond.initialized RX4, Cond.code yX4_isPlayable cX4_isPlayable 1 (some .boolean), Cond.constant RX4 29 (-99999), Cond.fieldLink RX4 30 "BranchNotes$Text" "stepCount" "I", Cond.methodLink RX4 25 yX4_read, Cond.instanceMethod yX4_read, Cond.selects RX4 yX4_read yX4_read, Cond.code yX4_read cX4_read 2 (some .int)]
def wsL_tryPlay_r2 : List Cond := [Cond.fieldLink RX4 33 "BranchNotes$Text" "open" "I", Cond.fieldLink RX4 36 "BranchNotes$Text" "expected" "I", Cond.fieldLink RX4 21 "BranchNotes$Text" "length" "I", Cond.fieldLink RX4 11 "BranchNotes$Text" "codes" "[I", Cond.methodLink RX4 39 yX4_readCharacter, Cond.instanceMethod yX4_readCharacter, Cond.selects RX4 yX4_readCharacter yX4_readCharacter, Cond.code yX4_readCharacter cX4_readCharacter 2 (some .boolean), Cond.methodLink RX4 43 yX4_readSign, Cond.instanceMethod yX4_readSign, Cond.selects RX4 yX4_readSign yX4_readSign, Cond.code yX4_readSign cX4_readSign 2 (some .boolean), Cond.fieldLink RX4 15 "BranchNotes$Text" "steps" "[I", Cond.fieldLink RX4 52 "BranchNotes$Text" "letter" "I", Cond.methodLink RX4 46 yX4_readDigit, Cond.instanceMethod yX4_readDigit, Cond.selects RX4 yX4_readDigit yX4_readDigit, Cond.code yX4_readDigit cX4_readDigit 2 (some .boolean), Cond.fieldLink RX4 18 "BranchNotes$Text" "starts" "[I", Cond.methodLink RX4 55 yX4_repeatFrom, Cond.instanceMethod yX4_repeatFrom, Cond.selects RX4 yX4_repeatFrom yX4_repeatFrom, Cond.code yX4_repeatFrom cX4_repeatFrom 6 none, Cond.methodLink RX4 49 yX4_readItem]
def wsL_tryPlay_r3 : List Cond := [Cond.instanceMethod yX4_readItem, Cond.selects RX4 yX4_readItem yX4_readItem, Cond.code yX4_readItem cX4_readItem 2 (some .boolean), Cond.methodLink RX5 164 yX1_remember, Cond.instanceMethod yX1_remember, Cond.selects RX1 yX1_remember yX1_remember, Cond.initialized RX1, Cond.code yX1_remember cX1_remember 2 none, Cond.fieldLink RX1 16 "BranchNotes$History" "count" "I", Cond.fieldLink RX1 20 "BranchNotes$History" "oldest" "I", Cond.fieldLink RX1 11 "BranchNotes$History" "ring" "[LBranchNotes$State;", Cond.methodLink RX1 23 yX3_copyFrom, Cond.instanceMethod yX3_copyFrom, Cond.selects RX3 yX3_copyFrom yX3_copyFrom, Cond.initialized RX3, Cond.code yX3_copyFrom cX3_copyFrom 3 none, Cond.fieldLink RX3 9 "BranchNotes$State" "settings" "[I", Cond.methodLink RX3 38 arraycopyName, Cond.native arraycopyName, Cond.static arraycopyName, Cond.initialized "java/lang/System", Cond.fieldLink RX3 17 "BranchNotes$State" "desks" "[LBranchNotes$Desk;", Cond.fieldLink RX3 21 "BranchNotes$State" "choosers" "[I", Cond.fieldLink RX3 24 "BranchNotes$State" "goneAt" "[I"]
def wsL_tryPlay_r4 : List Cond := [Cond.fieldLink RX3 27 "BranchNotes$State" "takenAt" "[I", Cond.fieldLink RX3 30 "BranchNotes$State" "rightAt" "[I", Cond.fieldLink RX3 48 "BranchNotes$State" "gone" "I", Cond.fieldLink RX3 52 "BranchNotes$State" "right" "I", Cond.fieldLink RX3 55 "BranchNotes$State" "points" "I", Cond.fieldLink RX3 58 "BranchNotes$State" "series" "I", Cond.fieldLink RX3 61 "BranchNotes$State" "longestSeries" "I", Cond.methodLink RX3 44 yX0_copyFrom, Cond.instanceMethod yX0_copyFrom, Cond.selects RX0 yX0_copyFrom yX0_copyFrom, Cond.initialized RX0, Cond.code yX0_copyFrom cX0_copyFrom 2 none, Cond.fieldLink RX0 9 "BranchNotes$Desk" "settings" "[I", Cond.methodLink RX0 30 arraycopyName, Cond.fieldLink RX0 15 "BranchNotes$Desk" "strengths" "[I", Cond.fieldLink RX0 18 "BranchNotes$Desk" "lastPlaces" "[I", Cond.fieldLink RX0 21 "BranchNotes$Desk" "uses" "[I", Cond.fieldLink RX0 24 "BranchNotes$Desk" "rights" "[I", Cond.fieldLink RX0 27 "BranchNotes$Desk" "paths" "[I", Cond.fieldLink RX0 36 "BranchNotes$Desk" "clashes" "I", Cond.fieldLink RX0 40 "BranchNotes$Desk" "right" "I", Cond.methodLink RX5 199 yX3_goAll, Cond.instanceMethod yX3_goAll, Cond.selects RX3 yX3_goAll yX3_goAll]
def wsL_tryPlay_r5 : List Cond := [Cond.code yX3_goAll cX3_goAll 4 none, Cond.fieldLink RX3 103 "BranchNotes$Text" "stepCount" "I", Cond.fieldLink RX3 108 "BranchNotes$Text" "steps" "[I", Cond.methodLink RX3 111 yX3_go, Cond.instanceMethod yX3_go, Cond.selects RX3 yX3_go yX3_go, Cond.code yX3_go cX3_go 7 (some .boolean), Cond.methodLink RX3 83 yX3_deskSays, Cond.instanceMethod yX3_deskSays, Cond.selects RX3 yX3_deskSays yX3_deskSays, Cond.code yX3_deskSays cX3_deskSays 4 (some .boolean), Cond.fieldLink RX3 80 "BranchNotes$Desk" "strengths" "[I", Cond.methodLink RX3 76 yX0_noteFor, Cond.instanceMethod yX0_noteFor, Cond.selects RX0 yX0_noteFor yX0_noteFor, Cond.code yX0_noteFor cX0_noteFor 5 (some .int), Cond.methodLink RX0 50 yX0_pathFor, Cond.instanceMethod yX0_pathFor, Cond.selects RX0 yX0_pathFor yX0_pathFor, Cond.code yX0_pathFor cX0_pathFor 2 (some .int), Cond.methodLink RX3 87 yX3_countGuess, Cond.instanceMethod yX3_countGuess, Cond.selects RX3 yX3_countGuess yX3_countGuess, Cond.code yX3_countGuess cX3_countGuess 4 none]
def wsL_tryPlay_r6 : List Cond := [Cond.methodLink RX3 115 Lib.Math.max.name, Cond.static Lib.Math.max.name, Cond.initialized "java/lang/Math", Cond.code Lib.Math.max.name Lib.Math.max.code 2 (some .int), Cond.methodLink RX3 91 yX3_moveChooser, Cond.instanceMethod yX3_moveChooser, Cond.selects RX3 yX3_moveChooser yX3_moveChooser, Cond.code yX3_moveChooser cX3_moveChooser 3 none, Cond.methodLink RX3 120 Lib.Math.min.name, Cond.static Lib.Math.min.name, Cond.code Lib.Math.min.name Lib.Math.min.code 2 (some .int), Cond.methodLink RX3 95 yX3_noteFor, Cond.instanceMethod yX3_noteFor, Cond.selects RX3 yX3_noteFor yX3_noteFor, Cond.code yX3_noteFor cX3_noteFor 3 (some .int), Cond.methodLink RX3 96 yX0_use, Cond.instanceMethod yX0_use, Cond.selects RX0 yX0_use yX0_use, Cond.code yX0_use cX0_use 5 none, Cond.methodLink RX0 54 Lib.Math.min.name, Cond.methodLink RX0 60 Lib.Math.max.name, Cond.methodLink RX3 100 yX0_changePath, Cond.instanceMethod yX0_changePath, Cond.selects RX0 yX0_changePath yX0_changePath]
def wsL_tryPlay_r7 : List Cond := [Cond.code yX0_changePath cX0_changePath 4 none]
def wsL_tryPlay : List Cond := .codeWith yL_tryPlay cL_tryPlay 2 (some .int) [(0, 4, 5, 31)] :: ((wsL_tryPlay_r1 ++ (wsL_tryPlay_r2 ++ (wsL_tryPlay_r3 ++ (wsL_tryPlay_r4 ++ (wsL_tryPlay_r5 ++ (wsL_tryPlay_r6 ++ wsL_tryPlay_r7)))))) ++ wsX50 ++ wsX30 ++ wsX40 ++ wsX10 ++ wsX00 ++ (vx_atS RX5 56 "java/lang/IllegalStateException" ["java/lang/RuntimeException", "java/lang/Exception"]).filter goodWord)
def wsL_tryUndo_r1 : List Cond := [Cond.classLink RL 31 "java/lang/IllegalStateException", Cond.constant RL 33 (-9999003), Cond.methodLink RL 70 yX5_undo, Cond.instanceMethod yX5_undo, Cond.selects RX5 yX5_undo yX5_undo, Cond.initialized RX5, Cond.code yX5_undo cX5_undo 1 (some .int), Cond.classLink RX5 52 "java/lang/IllegalStateException", Cond.initialized "java/lang/IllegalStateException", Cond.fieldLink RX5 29 "BranchNotes" "history" "LBranchNotes$History;", Cond.fieldLink RX5 19 "BranchNotes" "state" "LBranchNotes$State;", Cond.fieldLink RX5 209 "BranchNotes$History" "count" "I", Cond.methodLink RX5 203 yX1_takeBack, Cond.instanceMethod yX1_takeBack, Cond.selects RX1 yX1_takeBack yX1_takeBack, Cond.initialized RX1, Cond.code yX1_takeBack cX1_takeBack 2 (some .boolean), Cond.fieldLink RX1 16 "BranchNotes$History" "count" "I", Cond.fieldLink RX1 11 "BranchNotes$History" "ring" "[LBranchNotes$State;", Cond.fieldLink RX1 20 "BranchNotes$History" "oldest" "I", Cond.methodLink RX1 23 yX3_copyFrom, Cond.instanceMethod yX3_copyFrom, Cond.selects RX3 yX3_copyFrom yX3_copyFrom, Cond.initialized RX3]
def wsL_tryUndo_r2 : List Cond := [Cond.code yX3_copyFrom cX3_copyFrom 3 none, Cond.fieldLink RX3 9 "BranchNotes$State" "settings" "[I", Cond.methodLink RX3 38 arraycopyName, Cond.native arraycopyName, Cond.static arraycopyName, Cond.initialized "java/lang/System", Cond.fieldLink RX3 17 "BranchNotes$State" "desks" "[LBranchNotes$Desk;", Cond.fieldLink RX3 21 "BranchNotes$State" "choosers" "[I", Cond.fieldLink RX3 24 "BranchNotes$State" "goneAt" "[I", Cond.fieldLink RX3 27 "BranchNotes$State" "takenAt" "[I", Cond.fieldLink RX3 30 "BranchNotes$State" "rightAt" "[I", Cond.fieldLink RX3 48 "BranchNotes$State" "gone" "I", Cond.fieldLink RX3 52 "BranchNotes$State" "right" "I", Cond.fieldLink RX3 55 "BranchNotes$State" "points" "I", Cond.fieldLink RX3 58 "BranchNotes$State" "series" "I", Cond.fieldLink RX3 61 "BranchNotes$State" "longestSeries" "I", Cond.methodLink RX3 44 yX0_copyFrom, Cond.instanceMethod yX0_copyFrom, Cond.selects RX0 yX0_copyFrom yX0_copyFrom, Cond.initialized RX0, Cond.code yX0_copyFrom cX0_copyFrom 2 none, Cond.fieldLink RX0 9 "BranchNotes$Desk" "settings" "[I", Cond.methodLink RX0 30 arraycopyName, Cond.fieldLink RX0 15 "BranchNotes$Desk" "strengths" "[I"]
def wsL_tryUndo_r3 : List Cond := [Cond.fieldLink RX0 18 "BranchNotes$Desk" "lastPlaces" "[I", Cond.fieldLink RX0 21 "BranchNotes$Desk" "uses" "[I", Cond.fieldLink RX0 24 "BranchNotes$Desk" "rights" "[I", Cond.fieldLink RX0 27 "BranchNotes$Desk" "paths" "[I", Cond.fieldLink RX0 36 "BranchNotes$Desk" "clashes" "I", Cond.fieldLink RX0 40 "BranchNotes$Desk" "right" "I"]
def wsL_tryUndo : List Cond := .codeWith yL_tryUndo cL_tryUndo 2 (some .int) [(0, 4, 5, 31)] :: ((wsL_tryUndo_r1 ++ (wsL_tryUndo_r2 ++ wsL_tryUndo_r3)) ++ wsX50 ++ wsX10 ++ wsX30 ++ wsX00 ++ (vx_atS RX5 56 "java/lang/IllegalStateException" ["java/lang/RuntimeException", "java/lang/Exception"]).filter goodWord)
def wsL_tryMixing_r1 : List Cond := [Cond.classLink RL 24 "java/lang/IndexOutOfBoundsException", Cond.constant RL 26 (-9999001), Cond.methodLink RL 73 yX5_bestMixing, Cond.instanceMethod yX5_bestMixing, Cond.selects RX5 yX5_bestMixing yX5_bestMixing, Cond.initialized RX5, Cond.code yX5_bestMixing cX5_bestMixing 2 (some .int), Cond.methodLink RX5 99 yX5_checkDesk, Cond.static yX5_checkDesk, Cond.code yX5_checkDesk cX5_checkDesk 1 none, Cond.classLink RX5 265 "java/lang/IndexOutOfBoundsException", Cond.initialized "java/lang/IndexOutOfBoundsException", Cond.methodLink RX5 262 yX5_isDesk, Cond.static yX5_isDesk, Cond.code yX5_isDesk cX5_isDesk 1 (some .boolean), Cond.methodLink RX5 215 yX5_bestSetting, Cond.instanceMethod yX5_bestSetting, Cond.selects RX5 yX5_bestSetting yX5_bestSetting, Cond.code yX5_bestSetting cX5_bestSetting 6 (some .int), Cond.fieldLink RX5 10 "BranchNotes" "text" "LBranchNotes$Text;", Cond.constant RX5 65 (-99999), Cond.fieldLink RX5 253 "BranchNotes" "DESK_MOST" "[I", Cond.fieldLink RX5 23 "BranchNotes" "trial" "LBranchNotes$State;", Cond.fieldLink RX5 19 "BranchNotes" "state" "LBranchNotes$State;"]
def wsL_tryMixing_r2 : List Cond := [Cond.fieldLink RX5 75 "BranchNotes$State" "points" "I", Cond.methodLink RX5 193 yX4_isPlayable, Cond.instanceMethod yX4_isPlayable, Cond.selects RX4 yX4_isPlayable yX4_isPlayable, Cond.initialized RX4, Cond.code yX4_isPlayable cX4_isPlayable 1 (some .boolean), Cond.constant RX4 29 (-99999), Cond.fieldLink RX4 30 "BranchNotes$Text" "stepCount" "I", Cond.methodLink RX4 25 yX4_read, Cond.instanceMethod yX4_read, Cond.selects RX4 yX4_read yX4_read, Cond.code yX4_read cX4_read 2 (some .int), Cond.fieldLink RX4 33 "BranchNotes$Text" "open" "I", Cond.fieldLink RX4 36 "BranchNotes$Text" "expected" "I", Cond.fieldLink RX4 21 "BranchNotes$Text" "length" "I", Cond.fieldLink RX4 11 "BranchNotes$Text" "codes" "[I", Cond.methodLink RX4 39 yX4_readCharacter, Cond.instanceMethod yX4_readCharacter, Cond.selects RX4 yX4_readCharacter yX4_readCharacter, Cond.code yX4_readCharacter cX4_readCharacter 2 (some .boolean), Cond.methodLink RX4 43 yX4_readSign, Cond.instanceMethod yX4_readSign, Cond.selects RX4 yX4_readSign yX4_readSign, Cond.code yX4_readSign cX4_readSign 2 (some .boolean)]
def wsL_tryMixing_r3 : List Cond := [Cond.fieldLink RX4 15 "BranchNotes$Text" "steps" "[I", Cond.fieldLink RX4 52 "BranchNotes$Text" "letter" "I", Cond.methodLink RX4 46 yX4_readDigit, Cond.instanceMethod yX4_readDigit, Cond.selects RX4 yX4_readDigit yX4_readDigit, Cond.code yX4_readDigit cX4_readDigit 2 (some .boolean), Cond.fieldLink RX4 18 "BranchNotes$Text" "starts" "[I", Cond.methodLink RX4 55 yX4_repeatFrom, Cond.instanceMethod yX4_repeatFrom, Cond.selects RX4 yX4_repeatFrom yX4_repeatFrom, Cond.code yX4_repeatFrom cX4_repeatFrom 6 none, Cond.methodLink RX4 49 yX4_readItem, Cond.instanceMethod yX4_readItem, Cond.selects RX4 yX4_readItem yX4_readItem, Cond.code yX4_readItem cX4_readItem 2 (some .boolean), Cond.methodLink RX5 212 yX3_copyFrom, Cond.instanceMethod yX3_copyFrom, Cond.selects RX3 yX3_copyFrom yX3_copyFrom, Cond.initialized RX3, Cond.code yX3_copyFrom cX3_copyFrom 3 none, Cond.fieldLink RX3 9 "BranchNotes$State" "settings" "[I", Cond.methodLink RX3 38 arraycopyName, Cond.native arraycopyName, Cond.static arraycopyName]
def wsL_tryMixing_r4 : List Cond := [Cond.initialized "java/lang/System", Cond.fieldLink RX3 17 "BranchNotes$State" "desks" "[LBranchNotes$Desk;", Cond.fieldLink RX3 21 "BranchNotes$State" "choosers" "[I", Cond.fieldLink RX3 24 "BranchNotes$State" "goneAt" "[I", Cond.fieldLink RX3 27 "BranchNotes$State" "takenAt" "[I", Cond.fieldLink RX3 30 "BranchNotes$State" "rightAt" "[I", Cond.fieldLink RX3 48 "BranchNotes$State" "gone" "I", Cond.fieldLink RX3 52 "BranchNotes$State" "right" "I", Cond.fieldLink RX3 55 "BranchNotes$State" "points" "I", Cond.fieldLink RX3 58 "BranchNotes$State" "series" "I", Cond.fieldLink RX3 61 "BranchNotes$State" "longestSeries" "I", Cond.methodLink RX3 44 yX0_copyFrom, Cond.instanceMethod yX0_copyFrom, Cond.selects RX0 yX0_copyFrom yX0_copyFrom, Cond.initialized RX0, Cond.code yX0_copyFrom cX0_copyFrom 2 none, Cond.fieldLink RX0 9 "BranchNotes$Desk" "settings" "[I", Cond.methodLink RX0 30 arraycopyName, Cond.fieldLink RX0 15 "BranchNotes$Desk" "strengths" "[I", Cond.fieldLink RX0 18 "BranchNotes$Desk" "lastPlaces" "[I", Cond.fieldLink RX0 21 "BranchNotes$Desk" "uses" "[I", Cond.fieldLink RX0 24 "BranchNotes$Desk" "rights" "[I", Cond.fieldLink RX0 27 "BranchNotes$Desk" "paths" "[I", Cond.fieldLink RX0 36 "BranchNotes$Desk" "clashes" "I"]
def wsL_tryMixing_r5 : List Cond := [Cond.fieldLink RX0 40 "BranchNotes$Desk" "right" "I", Cond.methodLink RX5 168 yX3_changeDesk, Cond.instanceMethod yX3_changeDesk, Cond.selects RX3 yX3_changeDesk yX3_changeDesk, Cond.code yX3_changeDesk cX3_changeDesk 4 none, Cond.fieldLink RX3 34 "BranchNotes$Desk" "settings" "[I", Cond.methodLink RX3 35 yX3_beginAnew, Cond.instanceMethod yX3_beginAnew, Cond.selects RX3 yX3_beginAnew yX3_beginAnew, Cond.code yX3_beginAnew cX3_beginAnew 2 none, Cond.methodLink RX3 64 yX0_beginAnew, Cond.instanceMethod yX0_beginAnew, Cond.selects RX0 yX0_beginAnew yX0_beginAnew, Cond.code yX0_beginAnew cX0_beginAnew 2 none, Cond.constant RX0 49 (-99999), Cond.methodLink RX0 43 yJ7_fill_53178, Cond.static yJ7_fill_53178, Cond.initialized RJ7, Cond.code yJ7_fill_53178 cJ7_fill_53178 4 none, Cond.methodLink RX3 67 yJ7_fill_53178, Cond.methodLink RX5 199 yX3_goAll, Cond.instanceMethod yX3_goAll, Cond.selects RX3 yX3_goAll yX3_goAll, Cond.code yX3_goAll cX3_goAll 4 none]
def wsL_tryMixing_r6 : List Cond := [Cond.fieldLink RX3 103 "BranchNotes$Text" "stepCount" "I", Cond.fieldLink RX3 108 "BranchNotes$Text" "steps" "[I", Cond.methodLink RX3 111 yX3_go, Cond.instanceMethod yX3_go, Cond.selects RX3 yX3_go yX3_go, Cond.code yX3_go cX3_go 7 (some .boolean), Cond.methodLink RX3 83 yX3_deskSays, Cond.instanceMethod yX3_deskSays, Cond.selects RX3 yX3_deskSays yX3_deskSays, Cond.code yX3_deskSays cX3_deskSays 4 (some .boolean), Cond.fieldLink RX3 80 "BranchNotes$Desk" "strengths" "[I", Cond.methodLink RX3 76 yX0_noteFor, Cond.instanceMethod yX0_noteFor, Cond.selects RX0 yX0_noteFor yX0_noteFor, Cond.code yX0_noteFor cX0_noteFor 5 (some .int), Cond.methodLink RX0 50 yX0_pathFor, Cond.instanceMethod yX0_pathFor, Cond.selects RX0 yX0_pathFor yX0_pathFor, Cond.code yX0_pathFor cX0_pathFor 2 (some .int), Cond.methodLink RX3 87 yX3_countGuess, Cond.instanceMethod yX3_countGuess, Cond.selects RX3 yX3_countGuess yX3_countGuess, Cond.code yX3_countGuess cX3_countGuess 4 none, Cond.methodLink RX3 115 Lib.Math.max.name]
def wsL_tryMixing_r7 : List Cond := [Cond.static Lib.Math.max.name, Cond.initialized "java/lang/Math", Cond.code Lib.Math.max.name Lib.Math.max.code 2 (some .int), Cond.methodLink RX3 91 yX3_moveChooser, Cond.instanceMethod yX3_moveChooser, Cond.selects RX3 yX3_moveChooser yX3_moveChooser, Cond.code yX3_moveChooser cX3_moveChooser 3 none, Cond.methodLink RX3 120 Lib.Math.min.name, Cond.static Lib.Math.min.name, Cond.code Lib.Math.min.name Lib.Math.min.code 2 (some .int), Cond.methodLink RX3 95 yX3_noteFor, Cond.instanceMethod yX3_noteFor, Cond.selects RX3 yX3_noteFor yX3_noteFor, Cond.code yX3_noteFor cX3_noteFor 3 (some .int), Cond.methodLink RX3 96 yX0_use, Cond.instanceMethod yX0_use, Cond.selects RX0 yX0_use yX0_use, Cond.code yX0_use cX0_use 5 none, Cond.methodLink RX0 54 Lib.Math.min.name, Cond.methodLink RX0 60 Lib.Math.max.name, Cond.methodLink RX3 100 yX0_changePath, Cond.instanceMethod yX0_changePath, Cond.selects RX0 yX0_changePath yX0_changePath, Cond.code yX0_changePath cX0_changePath 4 none]
def wsL_tryMixing : List Cond := .codeWith yL_tryMixing cL_tryMixing 3 (some .int) [(0, 5, 6, 24)] :: ((wsL_tryMixing_r1 ++ (wsL_tryMixing_r2 ++ (wsL_tryMixing_r3 ++ (wsL_tryMixing_r4 ++ (wsL_tryMixing_r5 ++ (wsL_tryMixing_r6 ++ wsL_tryMixing_r7)))))) ++ wsX50 ++ wsX30 ++ wsX40 ++ wsX00 ++ (vx_atS RX5 269 "java/lang/IndexOutOfBoundsException" ["java/lang/RuntimeException", "java/lang/Exception"]).filter goodWord)
def wsL_tryLength_r1 : List Cond := [Cond.classLink RL 24 "java/lang/IndexOutOfBoundsException", Cond.constant RL 26 (-9999001), Cond.methodLink RL 76 yX5_bestLength, Cond.instanceMethod yX5_bestLength, Cond.selects RX5 yX5_bestLength yX5_bestLength, Cond.initialized RX5, Cond.code yX5_bestLength cX5_bestLength 2 (some .int), Cond.methodLink RX5 99 yX5_checkDesk, Cond.static yX5_checkDesk, Cond.code yX5_checkDesk cX5_checkDesk 1 none, Cond.classLink RX5 265 "java/lang/IndexOutOfBoundsException", Cond.initialized "java/lang/IndexOutOfBoundsException", Cond.methodLink RX5 262 yX5_isDesk, Cond.static yX5_isDesk, Cond.code yX5_isDesk cX5_isDesk 1 (some .boolean), Cond.methodLink RX5 215 yX5_bestSetting, Cond.instanceMethod yX5_bestSetting, Cond.selects RX5 yX5_bestSetting yX5_bestSetting, Cond.code yX5_bestSetting cX5_bestSetting 6 (some .int), Cond.fieldLink RX5 10 "BranchNotes" "text" "LBranchNotes$Text;", Cond.constant RX5 65 (-99999), Cond.fieldLink RX5 253 "BranchNotes" "DESK_MOST" "[I", Cond.fieldLink RX5 23 "BranchNotes" "trial" "LBranchNotes$State;", Cond.fieldLink RX5 19 "BranchNotes" "state" "LBranchNotes$State;"]
def wsL_tryLength_r2 : List Cond := [Cond.fieldLink RX5 75 "BranchNotes$State" "points" "I", Cond.methodLink RX5 193 yX4_isPlayable, Cond.instanceMethod yX4_isPlayable, Cond.selects RX4 yX4_isPlayable yX4_isPlayable, Cond.initialized RX4, Cond.code yX4_isPlayable cX4_isPlayable 1 (some .boolean), Cond.constant RX4 29 (-99999), Cond.fieldLink RX4 30 "BranchNotes$Text" "stepCount" "I", Cond.methodLink RX4 25 yX4_read, Cond.instanceMethod yX4_read, Cond.selects RX4 yX4_read yX4_read, Cond.code yX4_read cX4_read 2 (some .int), Cond.fieldLink RX4 33 "BranchNotes$Text" "open" "I", Cond.fieldLink RX4 36 "BranchNotes$Text" "expected" "I", Cond.fieldLink RX4 21 "BranchNotes$Text" "length" "I", Cond.fieldLink RX4 11 "BranchNotes$Text" "codes" "[I", Cond.methodLink RX4 39 yX4_readCharacter, Cond.instanceMethod yX4_readCharacter, Cond.selects RX4 yX4_readCharacter yX4_readCharacter, Cond.code yX4_readCharacter cX4_readCharacter 2 (some .boolean), Cond.methodLink RX4 43 yX4_readSign, Cond.instanceMethod yX4_readSign, Cond.selects RX4 yX4_readSign yX4_readSign, Cond.code yX4_readSign cX4_readSign 2 (some .boolean)]
def wsL_tryLength_r3 : List Cond := [Cond.fieldLink RX4 15 "BranchNotes$Text" "steps" "[I", Cond.fieldLink RX4 52 "BranchNotes$Text" "letter" "I", Cond.methodLink RX4 46 yX4_readDigit, Cond.instanceMethod yX4_readDigit, Cond.selects RX4 yX4_readDigit yX4_readDigit, Cond.code yX4_readDigit cX4_readDigit 2 (some .boolean), Cond.fieldLink RX4 18 "BranchNotes$Text" "starts" "[I", Cond.methodLink RX4 55 yX4_repeatFrom, Cond.instanceMethod yX4_repeatFrom, Cond.selects RX4 yX4_repeatFrom yX4_repeatFrom, Cond.code yX4_repeatFrom cX4_repeatFrom 6 none, Cond.methodLink RX4 49 yX4_readItem, Cond.instanceMethod yX4_readItem, Cond.selects RX4 yX4_readItem yX4_readItem, Cond.code yX4_readItem cX4_readItem 2 (some .boolean), Cond.methodLink RX5 212 yX3_copyFrom, Cond.instanceMethod yX3_copyFrom, Cond.selects RX3 yX3_copyFrom yX3_copyFrom, Cond.initialized RX3, Cond.code yX3_copyFrom cX3_copyFrom 3 none, Cond.fieldLink RX3 9 "BranchNotes$State" "settings" "[I", Cond.methodLink RX3 38 arraycopyName, Cond.native arraycopyName, Cond.static arraycopyName]
def wsL_tryLength_r4 : List Cond := [Cond.initialized "java/lang/System", Cond.fieldLink RX3 17 "BranchNotes$State" "desks" "[LBranchNotes$Desk;", Cond.fieldLink RX3 21 "BranchNotes$State" "choosers" "[I", Cond.fieldLink RX3 24 "BranchNotes$State" "goneAt" "[I", Cond.fieldLink RX3 27 "BranchNotes$State" "takenAt" "[I", Cond.fieldLink RX3 30 "BranchNotes$State" "rightAt" "[I", Cond.fieldLink RX3 48 "BranchNotes$State" "gone" "I", Cond.fieldLink RX3 52 "BranchNotes$State" "right" "I", Cond.fieldLink RX3 55 "BranchNotes$State" "points" "I", Cond.fieldLink RX3 58 "BranchNotes$State" "series" "I", Cond.fieldLink RX3 61 "BranchNotes$State" "longestSeries" "I", Cond.methodLink RX3 44 yX0_copyFrom, Cond.instanceMethod yX0_copyFrom, Cond.selects RX0 yX0_copyFrom yX0_copyFrom, Cond.initialized RX0, Cond.code yX0_copyFrom cX0_copyFrom 2 none, Cond.fieldLink RX0 9 "BranchNotes$Desk" "settings" "[I", Cond.methodLink RX0 30 arraycopyName, Cond.fieldLink RX0 15 "BranchNotes$Desk" "strengths" "[I", Cond.fieldLink RX0 18 "BranchNotes$Desk" "lastPlaces" "[I", Cond.fieldLink RX0 21 "BranchNotes$Desk" "uses" "[I", Cond.fieldLink RX0 24 "BranchNotes$Desk" "rights" "[I", Cond.fieldLink RX0 27 "BranchNotes$Desk" "paths" "[I", Cond.fieldLink RX0 36 "BranchNotes$Desk" "clashes" "I"]
def wsL_tryLength_r5 : List Cond := [Cond.fieldLink RX0 40 "BranchNotes$Desk" "right" "I", Cond.methodLink RX5 168 yX3_changeDesk, Cond.instanceMethod yX3_changeDesk, Cond.selects RX3 yX3_changeDesk yX3_changeDesk, Cond.code yX3_changeDesk cX3_changeDesk 4 none, Cond.fieldLink RX3 34 "BranchNotes$Desk" "settings" "[I", Cond.methodLink RX3 35 yX3_beginAnew, Cond.instanceMethod yX3_beginAnew, Cond.selects RX3 yX3_beginAnew yX3_beginAnew, Cond.code yX3_beginAnew cX3_beginAnew 2 none, Cond.methodLink RX3 64 yX0_beginAnew, Cond.instanceMethod yX0_beginAnew, Cond.selects RX0 yX0_beginAnew yX0_beginAnew, Cond.code yX0_beginAnew cX0_beginAnew 2 none, Cond.constant RX0 49 (-99999), Cond.methodLink RX0 43 yJ7_fill_53178, Cond.static yJ7_fill_53178, Cond.initialized RJ7, Cond.code yJ7_fill_53178 cJ7_fill_53178 4 none, Cond.methodLink RX3 67 yJ7_fill_53178, Cond.methodLink RX5 199 yX3_goAll, Cond.instanceMethod yX3_goAll, Cond.selects RX3 yX3_goAll yX3_goAll, Cond.code yX3_goAll cX3_goAll 4 none]
def wsL_tryLength_r6 : List Cond := [Cond.fieldLink RX3 103 "BranchNotes$Text" "stepCount" "I", Cond.fieldLink RX3 108 "BranchNotes$Text" "steps" "[I", Cond.methodLink RX3 111 yX3_go, Cond.instanceMethod yX3_go, Cond.selects RX3 yX3_go yX3_go, Cond.code yX3_go cX3_go 7 (some .boolean), Cond.methodLink RX3 83 yX3_deskSays, Cond.instanceMethod yX3_deskSays, Cond.selects RX3 yX3_deskSays yX3_deskSays, Cond.code yX3_deskSays cX3_deskSays 4 (some .boolean), Cond.fieldLink RX3 80 "BranchNotes$Desk" "strengths" "[I", Cond.methodLink RX3 76 yX0_noteFor, Cond.instanceMethod yX0_noteFor, Cond.selects RX0 yX0_noteFor yX0_noteFor, Cond.code yX0_noteFor cX0_noteFor 5 (some .int), Cond.methodLink RX0 50 yX0_pathFor, Cond.instanceMethod yX0_pathFor, Cond.selects RX0 yX0_pathFor yX0_pathFor, Cond.code yX0_pathFor cX0_pathFor 2 (some .int), Cond.methodLink RX3 87 yX3_countGuess, Cond.instanceMethod yX3_countGuess, Cond.selects RX3 yX3_countGuess yX3_countGuess, Cond.code yX3_countGuess cX3_countGuess 4 none, Cond.methodLink RX3 115 Lib.Math.max.name]
def wsL_tryLength_r7 : List Cond := [Cond.static Lib.Math.max.name, Cond.initialized "java/lang/Math", Cond.code Lib.Math.max.name Lib.Math.max.code 2 (some .int), Cond.methodLink RX3 91 yX3_moveChooser, Cond.instanceMethod yX3_moveChooser, Cond.selects RX3 yX3_moveChooser yX3_moveChooser, Cond.code yX3_moveChooser cX3_moveChooser 3 none, Cond.methodLink RX3 120 Lib.Math.min.name, Cond.static Lib.Math.min.name, Cond.code Lib.Math.min.name Lib.Math.min.code 2 (some .int), Cond.methodLink RX3 95 yX3_noteFor, Cond.instanceMethod yX3_noteFor, Cond.selects RX3 yX3_noteFor yX3_noteFor, Cond.code yX3_noteFor cX3_noteFor 3 (some .int), Cond.methodLink RX3 96 yX0_use, Cond.instanceMethod yX0_use, Cond.selects RX0 yX0_use yX0_use, Cond.code yX0_use cX0_use 5 none, Cond.methodLink RX0 54 Lib.Math.min.name, Cond.methodLink RX0 60 Lib.Math.max.name, Cond.methodLink RX3 100 yX0_changePath, Cond.instanceMethod yX0_changePath, Cond.selects RX0 yX0_changePath yX0_changePath, Cond.code yX0_changePath cX0_changePath 4 none]
def wsL_tryLength : List Cond := .codeWith yL_tryLength cL_tryLength 3 (some .int) [(0, 5, 6, 24)] :: ((wsL_tryLength_r1 ++ (wsL_tryLength_r2 ++ (wsL_tryLength_r3 ++ (wsL_tryLength_r4 ++ (wsL_tryLength_r5 ++ (wsL_tryLength_r6 ++ wsL_tryLength_r7)))))) ++ wsX50 ++ wsX30 ++ wsX40 ++ wsX00 ++ (vx_atS RX5 269 "java/lang/IndexOutOfBoundsException" ["java/lang/RuntimeException", "java/lang/Exception"]).filter goodWord)
def wsL_trySharing_r1 : List Cond := [Cond.classLink RL 24 "java/lang/IndexOutOfBoundsException", Cond.constant RL 26 (-9999001), Cond.methodLink RL 79 yX5_sharing, Cond.instanceMethod yX5_sharing, Cond.selects RX5 yX5_sharing yX5_sharing, Cond.initialized RX5, Cond.code yX5_sharing cX5_sharing 6 (some .int), Cond.fieldLink RX5 19 "BranchNotes" "state" "LBranchNotes$State;", Cond.methodLink RX5 99 yX5_checkDesk, Cond.static yX5_checkDesk, Cond.code yX5_checkDesk cX5_checkDesk 1 none, Cond.classLink RX5 265 "java/lang/IndexOutOfBoundsException", Cond.initialized "java/lang/IndexOutOfBoundsException", Cond.methodLink RX5 262 yX5_isDesk, Cond.static yX5_isDesk, Cond.code yX5_isDesk cX5_isDesk 1 (some .boolean), Cond.methodLink RX5 127 yX5_checkPlace, Cond.static yX5_checkPlace, Cond.code yX5_checkPlace cX5_checkPlace 1 none, Cond.methodLink RX5 270 yX5_isPlace, Cond.static yX5_isPlace, Cond.code yX5_isPlace cX5_isPlace 1 (some .boolean), Cond.methodLink RX5 151 yX3_noteFor, Cond.instanceMethod yX3_noteFor]
def wsL_trySharing_r2 : List Cond := [Cond.selects RX3 yX3_noteFor yX3_noteFor, Cond.initialized RX3, Cond.code yX3_noteFor cX3_noteFor 3 (some .int), Cond.fieldLink RX3 17 "BranchNotes$State" "desks" "[LBranchNotes$Desk;", Cond.fieldLink RX3 9 "BranchNotes$State" "settings" "[I", Cond.methodLink RX3 76 yX0_noteFor, Cond.instanceMethod yX0_noteFor, Cond.selects RX0 yX0_noteFor yX0_noteFor, Cond.initialized RX0, Cond.code yX0_noteFor cX0_noteFor 5 (some .int), Cond.fieldLink RX0 9 "BranchNotes$Desk" "settings" "[I", Cond.methodLink RX0 50 yX0_pathFor, Cond.instanceMethod yX0_pathFor, Cond.selects RX0 yX0_pathFor yX0_pathFor, Cond.code yX0_pathFor cX0_pathFor 2 (some .int), Cond.fieldLink RX0 27 "BranchNotes$Desk" "paths" "[I"]
def wsL_trySharing : List Cond := .codeWith yL_trySharing cL_trySharing 4 (some .int) [(0, 6, 7, 24)] :: ((wsL_trySharing_r1 ++ wsL_trySharing_r2) ++ wsX50 ++ wsX30 ++ wsX00 ++ (vx_atS RX5 269 "java/lang/IndexOutOfBoundsException" ["java/lang/RuntimeException", "java/lang/Exception"]).filter goodWord)
def wsL_tryHolds_r1 : List Cond := [Cond.classLink RL 24 "java/lang/IndexOutOfBoundsException", Cond.constant RL 26 (-9999001), Cond.methodLink RL 82 yX5_holds, Cond.instanceMethod yX5_holds, Cond.selects RX5 yX5_holds yX5_holds, Cond.initialized RX5, Cond.code yX5_holds cX5_holds 4 (some .int), Cond.fieldLink RX5 23 "BranchNotes" "trial" "LBranchNotes$State;", Cond.fieldLink RX5 19 "BranchNotes" "state" "LBranchNotes$State;", Cond.methodLink RX5 127 yX5_checkPlace, Cond.static yX5_checkPlace, Cond.code yX5_checkPlace cX5_checkPlace 1 none, Cond.classLink RX5 265 "java/lang/IndexOutOfBoundsException", Cond.initialized "java/lang/IndexOutOfBoundsException", Cond.methodLink RX5 270 yX5_isPlace, Cond.static yX5_isPlace, Cond.code yX5_isPlace cX5_isPlace 1 (some .boolean), Cond.methodLink RX5 212 yX3_copyFrom, Cond.instanceMethod yX3_copyFrom, Cond.selects RX3 yX3_copyFrom yX3_copyFrom, Cond.initialized RX3, Cond.code yX3_copyFrom cX3_copyFrom 3 none, Cond.fieldLink RX3 9 "BranchNotes$State" "settings" "[I", Cond.methodLink RX3 38 arraycopyName]
def wsL_tryHolds_r2 : List Cond := [Cond.native arraycopyName, Cond.static arraycopyName, Cond.initialized "java/lang/System", Cond.fieldLink RX3 17 "BranchNotes$State" "desks" "[LBranchNotes$Desk;", Cond.fieldLink RX3 21 "BranchNotes$State" "choosers" "[I", Cond.fieldLink RX3 24 "BranchNotes$State" "goneAt" "[I", Cond.fieldLink RX3 27 "BranchNotes$State" "takenAt" "[I", Cond.fieldLink RX3 30 "BranchNotes$State" "rightAt" "[I", Cond.fieldLink RX3 48 "BranchNotes$State" "gone" "I", Cond.fieldLink RX3 52 "BranchNotes$State" "right" "I", Cond.fieldLink RX3 55 "BranchNotes$State" "points" "I", Cond.fieldLink RX3 58 "BranchNotes$State" "series" "I", Cond.fieldLink RX3 61 "BranchNotes$State" "longestSeries" "I", Cond.methodLink RX3 44 yX0_copyFrom, Cond.instanceMethod yX0_copyFrom, Cond.selects RX0 yX0_copyFrom yX0_copyFrom, Cond.initialized RX0, Cond.code yX0_copyFrom cX0_copyFrom 2 none, Cond.fieldLink RX0 9 "BranchNotes$Desk" "settings" "[I", Cond.methodLink RX0 30 arraycopyName, Cond.fieldLink RX0 15 "BranchNotes$Desk" "strengths" "[I", Cond.fieldLink RX0 18 "BranchNotes$Desk" "lastPlaces" "[I", Cond.fieldLink RX0 21 "BranchNotes$Desk" "uses" "[I", Cond.fieldLink RX0 24 "BranchNotes$Desk" "rights" "[I"]
def wsL_tryHolds_r3 : List Cond := [Cond.fieldLink RX0 27 "BranchNotes$Desk" "paths" "[I", Cond.fieldLink RX0 36 "BranchNotes$Desk" "clashes" "I", Cond.fieldLink RX0 40 "BranchNotes$Desk" "right" "I", Cond.methodLink RX5 142 yX3_guessFor, Cond.instanceMethod yX3_guessFor, Cond.selects RX3 yX3_guessFor yX3_guessFor, Cond.code yX3_guessFor cX3_guessFor 2 (some .boolean), Cond.methodLink RX3 83 yX3_deskSays, Cond.instanceMethod yX3_deskSays, Cond.selects RX3 yX3_deskSays yX3_deskSays, Cond.code yX3_deskSays cX3_deskSays 4 (some .boolean), Cond.fieldLink RX3 80 "BranchNotes$Desk" "strengths" "[I", Cond.methodLink RX3 76 yX0_noteFor, Cond.instanceMethod yX0_noteFor, Cond.selects RX0 yX0_noteFor yX0_noteFor, Cond.code yX0_noteFor cX0_noteFor 5 (some .int), Cond.methodLink RX0 50 yX0_pathFor, Cond.instanceMethod yX0_pathFor, Cond.selects RX0 yX0_pathFor yX0_pathFor, Cond.code yX0_pathFor cX0_pathFor 2 (some .int), Cond.methodLink RX5 189 yX3_go, Cond.instanceMethod yX3_go, Cond.selects RX3 yX3_go yX3_go, Cond.code yX3_go cX3_go 7 (some .boolean)]
def wsL_tryHolds_r4 : List Cond := [Cond.methodLink RX3 87 yX3_countGuess, Cond.instanceMethod yX3_countGuess, Cond.selects RX3 yX3_countGuess yX3_countGuess, Cond.code yX3_countGuess cX3_countGuess 4 none, Cond.methodLink RX3 115 Lib.Math.max.name, Cond.static Lib.Math.max.name, Cond.initialized "java/lang/Math", Cond.code Lib.Math.max.name Lib.Math.max.code 2 (some .int), Cond.methodLink RX3 91 yX3_moveChooser, Cond.instanceMethod yX3_moveChooser, Cond.selects RX3 yX3_moveChooser yX3_moveChooser, Cond.code yX3_moveChooser cX3_moveChooser 3 none, Cond.methodLink RX3 120 Lib.Math.min.name, Cond.static Lib.Math.min.name, Cond.code Lib.Math.min.name Lib.Math.min.code 2 (some .int), Cond.methodLink RX3 95 yX3_noteFor, Cond.instanceMethod yX3_noteFor, Cond.selects RX3 yX3_noteFor yX3_noteFor, Cond.code yX3_noteFor cX3_noteFor 3 (some .int), Cond.methodLink RX3 96 yX0_use, Cond.instanceMethod yX0_use, Cond.selects RX0 yX0_use yX0_use, Cond.code yX0_use cX0_use 5 none, Cond.methodLink RX0 54 Lib.Math.min.name]
def wsL_tryHolds_r5 : List Cond := [Cond.methodLink RX0 60 Lib.Math.max.name, Cond.methodLink RX3 100 yX0_changePath, Cond.instanceMethod yX0_changePath, Cond.selects RX0 yX0_changePath yX0_changePath, Cond.code yX0_changePath cX0_changePath 4 none]
def wsL_tryHolds : List Cond := .codeWith yL_tryHolds cL_tryHolds 3 (some .int) [(0, 5, 6, 24)] :: ((wsL_tryHolds_r1 ++ (wsL_tryHolds_r2 ++ (wsL_tryHolds_r3 ++ (wsL_tryHolds_r4 ++ wsL_tryHolds_r5)))) ++ wsX50 ++ wsX30 ++ wsX00 ++ (vx_atS RX5 269 "java/lang/IndexOutOfBoundsException" ["java/lang/RuntimeException", "java/lang/Exception"]).filter goodWord)
def wsL_tryKeep_r1 : List Cond := [Cond.classLink RL 24 "java/lang/IndexOutOfBoundsException", Cond.constant RL 26 (-9999001), Cond.methodLink RL 85 yX5_save, Cond.instanceMethod yX5_save, Cond.selects RX5 yX5_save yX5_save, Cond.initialized RX5, Cond.code yX5_save cX5_save 2 (some .int), Cond.fieldLink RX5 33 "BranchNotes" "slots" "[LBranchNotes$State;", Cond.fieldLink RX5 19 "BranchNotes" "state" "LBranchNotes$State;", Cond.fieldLink RX5 37 "BranchNotes" "saved" "[Z", Cond.fieldLink RX5 69 "BranchNotes$State" "gone" "I", Cond.methodLink RX5 248 yX5_checkSlot, Cond.static yX5_checkSlot, Cond.code yX5_checkSlot cX5_checkSlot 1 none, Cond.classLink RX5 265 "java/lang/IndexOutOfBoundsException", Cond.initialized "java/lang/IndexOutOfBoundsException", Cond.methodLink RX5 212 yX3_copyFrom, Cond.instanceMethod yX3_copyFrom, Cond.selects RX3 yX3_copyFrom yX3_copyFrom, Cond.initialized RX3, Cond.code yX3_copyFrom cX3_copyFrom 3 none, Cond.fieldLink RX3 9 "BranchNotes$State" "settings" "[I", Cond.methodLink RX3 38 arraycopyName, Cond.native arraycopyName]
def wsL_tryKeep_r2 : List Cond := [Cond.static arraycopyName, Cond.initialized "java/lang/System", Cond.fieldLink RX3 17 "BranchNotes$State" "desks" "[LBranchNotes$Desk;", Cond.fieldLink RX3 21 "BranchNotes$State" "choosers" "[I", Cond.fieldLink RX3 24 "BranchNotes$State" "goneAt" "[I", Cond.fieldLink RX3 27 "BranchNotes$State" "takenAt" "[I", Cond.fieldLink RX3 30 "BranchNotes$State" "rightAt" "[I", Cond.fieldLink RX3 48 "BranchNotes$State" "gone" "I", Cond.fieldLink RX3 52 "BranchNotes$State" "right" "I", Cond.fieldLink RX3 55 "BranchNotes$State" "points" "I", Cond.fieldLink RX3 58 "BranchNotes$State" "series" "I", Cond.fieldLink RX3 61 "BranchNotes$State" "longestSeries" "I", Cond.methodLink RX3 44 yX0_copyFrom, Cond.instanceMethod yX0_copyFrom, Cond.selects RX0 yX0_copyFrom yX0_copyFrom, Cond.initialized RX0, Cond.code yX0_copyFrom cX0_copyFrom 2 none, Cond.fieldLink RX0 9 "BranchNotes$Desk" "settings" "[I", Cond.methodLink RX0 30 arraycopyName, Cond.fieldLink RX0 15 "BranchNotes$Desk" "strengths" "[I", Cond.fieldLink RX0 18 "BranchNotes$Desk" "lastPlaces" "[I", Cond.fieldLink RX0 21 "BranchNotes$Desk" "uses" "[I", Cond.fieldLink RX0 24 "BranchNotes$Desk" "rights" "[I", Cond.fieldLink RX0 27 "BranchNotes$Desk" "paths" "[I"]
def wsL_tryKeep_r3 : List Cond := [Cond.fieldLink RX0 36 "BranchNotes$Desk" "clashes" "I", Cond.fieldLink RX0 40 "BranchNotes$Desk" "right" "I"]
def wsL_tryKeep : List Cond := .codeWith yL_tryKeep cL_tryKeep 3 (some .int) [(0, 5, 6, 24)] :: ((wsL_tryKeep_r1 ++ (wsL_tryKeep_r2 ++ wsL_tryKeep_r3)) ++ wsX50 ++ wsX30 ++ wsX00 ++ (vx_atS RX5 269 "java/lang/IndexOutOfBoundsException" ["java/lang/RuntimeException", "java/lang/Exception"]).filter goodWord)
def wsL_tryBack_r1 : List Cond := [Cond.classLink RL 24 "java/lang/IndexOutOfBoundsException", Cond.classLink RL 31 "java/lang/IllegalStateException", Cond.constant RL 26 (-9999001), Cond.constant RL 33 (-9999003), Cond.methodLink RL 88 yX5_restore, Cond.instanceMethod yX5_restore, Cond.selects RX5 yX5_restore yX5_restore, Cond.initialized RX5, Cond.code yX5_restore cX5_restore 2 (some .int), Cond.classLink RX5 52 "java/lang/IllegalStateException", Cond.initialized "java/lang/IllegalStateException", Cond.fieldLink RX5 37 "BranchNotes" "saved" "[Z", Cond.fieldLink RX5 19 "BranchNotes" "state" "LBranchNotes$State;", Cond.fieldLink RX5 33 "BranchNotes" "slots" "[LBranchNotes$State;", Cond.fieldLink RX5 29 "BranchNotes" "history" "LBranchNotes$History;", Cond.fieldLink RX5 209 "BranchNotes$History" "count" "I", Cond.fieldLink RX5 69 "BranchNotes$State" "gone" "I", Cond.methodLink RX5 248 yX5_checkSlot, Cond.static yX5_checkSlot, Cond.code yX5_checkSlot cX5_checkSlot 1 none, Cond.classLink RX5 265 "java/lang/IndexOutOfBoundsException", Cond.initialized "java/lang/IndexOutOfBoundsException", Cond.methodLink RX5 212 yX3_copyFrom, Cond.instanceMethod yX3_copyFrom]
def wsL_tryBack_r2 : List Cond := [Cond.selects RX3 yX3_copyFrom yX3_copyFrom, Cond.initialized RX3, Cond.code yX3_copyFrom cX3_copyFrom 3 none, Cond.fieldLink RX3 9 "BranchNotes$State" "settings" "[I", Cond.methodLink RX3 38 arraycopyName, Cond.native arraycopyName, Cond.static arraycopyName, Cond.initialized "java/lang/System", Cond.fieldLink RX3 17 "BranchNotes$State" "desks" "[LBranchNotes$Desk;", Cond.fieldLink RX3 21 "BranchNotes$State" "choosers" "[I", Cond.fieldLink RX3 24 "BranchNotes$State" "goneAt" "[I", Cond.fieldLink RX3 27 "BranchNotes$State" "takenAt" "[I", Cond.fieldLink RX3 30 "BranchNotes$State" "rightAt" "[I", Cond.fieldLink RX3 48 "BranchNotes$State" "gone" "I", Cond.fieldLink RX3 52 "BranchNotes$State" "right" "I", Cond.fieldLink RX3 55 "BranchNotes$State" "points" "I", Cond.fieldLink RX3 58 "BranchNotes$State" "series" "I", Cond.fieldLink RX3 61 "BranchNotes$State" "longestSeries" "I", Cond.methodLink RX3 44 yX0_copyFrom, Cond.instanceMethod yX0_copyFrom, Cond.selects RX0 yX0_copyFrom yX0_copyFrom, Cond.initialized RX0, Cond.code yX0_copyFrom cX0_copyFrom 2 none, Cond.fieldLink RX0 9 "BranchNotes$Desk" "settings" "[I"]
def wsL_tryBack_r3 : List Cond := [Cond.methodLink RX0 30 arraycopyName, Cond.fieldLink RX0 15 "BranchNotes$Desk" "strengths" "[I", Cond.fieldLink RX0 18 "BranchNotes$Desk" "lastPlaces" "[I", Cond.fieldLink RX0 21 "BranchNotes$Desk" "uses" "[I", Cond.fieldLink RX0 24 "BranchNotes$Desk" "rights" "[I", Cond.fieldLink RX0 27 "BranchNotes$Desk" "paths" "[I", Cond.fieldLink RX0 36 "BranchNotes$Desk" "clashes" "I", Cond.fieldLink RX0 40 "BranchNotes$Desk" "right" "I"]
def wsL_tryBack : List Cond := .codeWith yL_tryBack cL_tryBack 3 (some .int) [(0, 5, 6, 24), (0, 5, 10, 31)] :: ((wsL_tryBack_r1 ++ (wsL_tryBack_r2 ++ wsL_tryBack_r3)) ++ wsX50 ++ wsX10 ++ wsX30 ++ wsX00 ++ (vx_atS RX5 56 "java/lang/IllegalStateException" ["java/lang/RuntimeException", "java/lang/Exception"]).filter goodWord ++ (vx_atS RX5 269 "java/lang/IndexOutOfBoundsException" ["java/lang/RuntimeException", "java/lang/Exception"]).filter goodWord)
def wsL_call_r1 : List Cond := [Cond.methodLink RL 91 yL_tryAppend, Cond.static yL_tryAppend, Cond.initialized RL, Cond.codeWith yL_tryAppend cL_tryAppend 3 (some .int) [(0, 5, 6, 13), (0, 5, 10, 31)], Cond.classLink RL 13 "java/lang/IllegalArgumentException", Cond.classLink RL 31 "java/lang/IllegalStateException", Cond.constant RL 15 (-9999002), Cond.constant RL 33 (-9999003), Cond.methodLink RL 27 yX5_append, Cond.instanceMethod yX5_append, Cond.selects RX5 yX5_append yX5_append, Cond.initialized RX5, Cond.code yX5_append cX5_append 2 (some .int), Cond.classLink RX5 41 "java/lang/IllegalArgumentException", Cond.initialized "java/lang/IllegalArgumentException", Cond.classLink RX5 52 "java/lang/IllegalStateException", Cond.initialized "java/lang/IllegalStateException", Cond.fieldLink RX5 10 "BranchNotes" "text" "LBranchNotes$Text;", Cond.fieldLink RX5 57 "BranchNotes$Text" "length" "I", Cond.methodLink RX5 48 yX4_add, Cond.instanceMethod yX4_add, Cond.selects RX4 yX4_add yX4_add, Cond.initialized RX4, Cond.code yX4_add cX4_add 2 (some .boolean)]
def wsL_call_r2 : List Cond := [Cond.fieldLink RX4 21 "BranchNotes$Text" "length" "I", Cond.fieldLink RX4 11 "BranchNotes$Text" "codes" "[I", Cond.methodLink RL 97 yL_tryAbout, Cond.static yL_tryAbout, Cond.codeWith yL_tryAbout cL_tryAbout 3 (some .int) [(0, 5, 6, 13)], Cond.methodLink RL 34 yX5_about, Cond.instanceMethod yX5_about, Cond.selects RX5 yX5_about yX5_about, Cond.code yX5_about cX5_about 2 (some .int), Cond.fieldLink RX5 19 "BranchNotes" "state" "LBranchNotes$State;", Cond.fieldLink RX5 69 "BranchNotes$State" "gone" "I", Cond.fieldLink RX5 72 "BranchNotes$State" "right" "I", Cond.fieldLink RX5 75 "BranchNotes$State" "points" "I", Cond.fieldLink RX5 78 "BranchNotes$State" "desks" "[LBranchNotes$Desk;", Cond.fieldLink RX5 82 "BranchNotes$Desk" "clashes" "I", Cond.fieldLink RX5 87 "BranchNotes$State" "series" "I", Cond.fieldLink RX5 90 "BranchNotes$State" "longestSeries" "I", Cond.fieldLink RX5 93 "BranchNotes$State" "settings" "[I", Cond.methodLink RL 100 yL_tryDesk, Cond.static yL_tryDesk, Cond.codeWith yL_tryDesk cL_tryDesk 4 (some .int) [(0, 6, 7, 24), (0, 6, 11, 13)], Cond.classLink RL 24 "java/lang/IndexOutOfBoundsException", Cond.constant RL 26 (-9999001), Cond.methodLink RL 37 yX5_desk]
def wsL_call_r3 : List Cond := [Cond.instanceMethod yX5_desk, Cond.selects RX5 yX5_desk yX5_desk, Cond.code yX5_desk cX5_desk 4 (some .int), Cond.fieldLink RX5 103 "BranchNotes$Desk" "settings" "[I", Cond.fieldLink RX5 104 "BranchNotes$Desk" "right" "I", Cond.methodLink RX5 99 yX5_checkDesk, Cond.static yX5_checkDesk, Cond.code yX5_checkDesk cX5_checkDesk 1 none, Cond.classLink RX5 265 "java/lang/IndexOutOfBoundsException", Cond.initialized "java/lang/IndexOutOfBoundsException", Cond.methodLink RX5 262 yX5_isDesk, Cond.static yX5_isDesk, Cond.code yX5_isDesk cX5_isDesk 1 (some .boolean), Cond.methodLink RX5 105 yX0_countUsed, Cond.instanceMethod yX0_countUsed, Cond.selects RX0 yX0_countUsed yX0_countUsed, Cond.initialized RX0, Cond.code yX0_countUsed cX0_countUsed 3 (some .int), Cond.fieldLink RX0 21 "BranchNotes$Desk" "uses" "[I", Cond.methodLink RL 104 yL_tryNote, Cond.static yL_tryNote, Cond.codeWith yL_tryNote cL_tryNote 5 (some .int) [(0, 7, 8, 24), (0, 7, 13, 13)], Cond.methodLink RL 41 yX5_note, Cond.instanceMethod yX5_note]
def wsL_call_r4 : List Cond := [Cond.selects RX5 yX5_note yX5_note, Cond.code yX5_note cX5_note 5 (some .int), Cond.fieldLink RX5 113 "BranchNotes$Desk" "strengths" "[I", Cond.fieldLink RX5 116 "BranchNotes$Desk" "lastPlaces" "[I", Cond.fieldLink RX5 119 "BranchNotes$Desk" "uses" "[I", Cond.fieldLink RX5 122 "BranchNotes$Desk" "rights" "[I", Cond.methodLink RX5 110 yX5_checkNote, Cond.instanceMethod yX5_checkNote, Cond.selects RX5 yX5_checkNote yX5_checkNote, Cond.code yX5_checkNote cX5_checkNote 2 none, Cond.methodLink RX5 277 yX3_isNote, Cond.instanceMethod yX3_isNote, Cond.selects RX3 yX3_isNote yX3_isNote, Cond.initialized RX3, Cond.code yX3_isNote cX3_isNote 2 (some .boolean), Cond.fieldLink RX3 9 "BranchNotes$State" "settings" "[I", Cond.methodLink RL 108 yL_tryPlace, Cond.static yL_tryPlace, Cond.codeWith yL_tryPlace cL_tryPlace 4 (some .int) [(0, 6, 7, 24), (0, 6, 11, 13)], Cond.methodLink RL 45 yX5_place, Cond.instanceMethod yX5_place, Cond.selects RX5 yX5_place yX5_place, Cond.code yX5_place cX5_place 3 (some .int), Cond.fieldLink RX5 130 "BranchNotes$State" "goneAt" "[I"]
def wsL_call_r5 : List Cond := [Cond.fieldLink RX5 133 "BranchNotes$State" "takenAt" "[I", Cond.fieldLink RX5 136 "BranchNotes$State" "rightAt" "[I", Cond.fieldLink RX5 139 "BranchNotes$State" "choosers" "[I", Cond.methodLink RX5 127 yX5_checkPlace, Cond.static yX5_checkPlace, Cond.code yX5_checkPlace cX5_checkPlace 1 none, Cond.methodLink RX5 270 yX5_isPlace, Cond.static yX5_isPlace, Cond.code yX5_isPlace cX5_isPlace 1 (some .boolean), Cond.methodLink RX5 142 yX3_guessFor, Cond.instanceMethod yX3_guessFor, Cond.selects RX3 yX3_guessFor yX3_guessFor, Cond.code yX3_guessFor cX3_guessFor 2 (some .boolean), Cond.fieldLink RX3 21 "BranchNotes$State" "choosers" "[I", Cond.methodLink RX3 83 yX3_deskSays, Cond.instanceMethod yX3_deskSays, Cond.selects RX3 yX3_deskSays yX3_deskSays, Cond.code yX3_deskSays cX3_deskSays 4 (some .boolean), Cond.fieldLink RX3 17 "BranchNotes$State" "desks" "[LBranchNotes$Desk;", Cond.fieldLink RX3 80 "BranchNotes$Desk" "strengths" "[I", Cond.methodLink RX3 76 yX0_noteFor, Cond.instanceMethod yX0_noteFor, Cond.selects RX0 yX0_noteFor yX0_noteFor, Cond.code yX0_noteFor cX0_noteFor 5 (some .int)]
def wsL_call_r6 : List Cond := [Cond.fieldLink RX0 9 "BranchNotes$Desk" "settings" "[I", Cond.methodLink RX0 50 yX0_pathFor, Cond.instanceMethod yX0_pathFor, Cond.selects RX0 yX0_pathFor yX0_pathFor, Cond.code yX0_pathFor cX0_pathFor 2 (some .int), Cond.fieldLink RX0 27 "BranchNotes$Desk" "paths" "[I", Cond.methodLink RL 111 yL_tryPath, Cond.static yL_tryPath, Cond.codeWith yL_tryPath cL_tryPath 4 (some .int) [(0, 6, 7, 24)], Cond.methodLink RL 48 yX5_path, Cond.instanceMethod yX5_path, Cond.selects RX5 yX5_path yX5_path, Cond.code yX5_path cX5_path 3 (some .int), Cond.methodLink RX5 147 yX0_pathFor, Cond.methodLink RL 114 yL_tryNumber, Cond.static yL_tryNumber, Cond.codeWith yL_tryNumber cL_tryNumber 4 (some .int) [(0, 6, 7, 24)], Cond.methodLink RL 51 yX5_noteOf, Cond.instanceMethod yX5_noteOf, Cond.selects RX5 yX5_noteOf yX5_noteOf, Cond.code yX5_noteOf cX5_noteOf 3 (some .int), Cond.methodLink RX5 151 yX3_noteFor, Cond.instanceMethod yX3_noteFor, Cond.selects RX3 yX3_noteFor yX3_noteFor]
def wsL_call_r7 : List Cond := [Cond.code yX3_noteFor cX3_noteFor 3 (some .int), Cond.methodLink RL 117 yL_tryShare, Cond.static yL_tryShare, Cond.codeWith yL_tryShare cL_tryShare 3 (some .int) [(0, 5, 6, 24)], Cond.methodLink RL 54 yX5_share, Cond.instanceMethod yX5_share, Cond.selects RX5 yX5_share yX5_share, Cond.code yX5_share cX5_share 3 (some .int), Cond.constant RX5 65 (-99999), Cond.methodLink RX5 155 yX5_quotientBits, Cond.static yX5_quotientBits, Cond.code yX5_quotientBits cX5_quotientBits 7 (some .int), Cond.constantLong RX5 282 (2), Cond.methodLink RL 120 yL_tryTune, Cond.static yL_tryTune, Cond.codeWith yL_tryTune cL_tryTune 5 (some .int) [(0, 7, 8, 24), (0, 7, 13, 13)], Cond.methodLink RL 57 yX5_setDesk, Cond.instanceMethod yX5_setDesk, Cond.selects RX5 yX5_setDesk yX5_setDesk, Cond.code yX5_setDesk cX5_setDesk 5 (some .int), Cond.fieldLink RX5 29 "BranchNotes" "history" "LBranchNotes$History;", Cond.methodLink RX5 158 yX5_isDeskSetting, Cond.static yX5_isDeskSetting, Cond.code yX5_isDeskSetting cX5_isDeskSetting 2 (some .boolean)]
def wsL_call_r8 : List Cond := [Cond.fieldLink RX5 253 "BranchNotes" "DESK_MOST" "[I", Cond.methodLink RX5 164 yX1_remember, Cond.instanceMethod yX1_remember, Cond.selects RX1 yX1_remember yX1_remember, Cond.initialized RX1, Cond.code yX1_remember cX1_remember 2 none, Cond.fieldLink RX1 16 "BranchNotes$History" "count" "I", Cond.fieldLink RX1 20 "BranchNotes$History" "oldest" "I", Cond.fieldLink RX1 11 "BranchNotes$History" "ring" "[LBranchNotes$State;", Cond.methodLink RX1 23 yX3_copyFrom, Cond.instanceMethod yX3_copyFrom, Cond.selects RX3 yX3_copyFrom yX3_copyFrom, Cond.code yX3_copyFrom cX3_copyFrom 3 none, Cond.methodLink RX3 38 arraycopyName, Cond.native arraycopyName, Cond.static arraycopyName, Cond.initialized "java/lang/System", Cond.fieldLink RX3 24 "BranchNotes$State" "goneAt" "[I", Cond.fieldLink RX3 27 "BranchNotes$State" "takenAt" "[I", Cond.fieldLink RX3 30 "BranchNotes$State" "rightAt" "[I", Cond.fieldLink RX3 48 "BranchNotes$State" "gone" "I", Cond.fieldLink RX3 52 "BranchNotes$State" "right" "I", Cond.fieldLink RX3 55 "BranchNotes$State" "points" "I", Cond.fieldLink RX3 58 "BranchNotes$State" "series" "I"]
def wsL_call_r9 : List Cond := [Cond.fieldLink RX3 61 "BranchNotes$State" "longestSeries" "I", Cond.methodLink RX3 44 yX0_copyFrom, Cond.instanceMethod yX0_copyFrom, Cond.selects RX0 yX0_copyFrom yX0_copyFrom, Cond.code yX0_copyFrom cX0_copyFrom 2 none, Cond.methodLink RX0 30 arraycopyName, Cond.fieldLink RX0 15 "BranchNotes$Desk" "strengths" "[I", Cond.fieldLink RX0 18 "BranchNotes$Desk" "lastPlaces" "[I", Cond.fieldLink RX0 24 "BranchNotes$Desk" "rights" "[I", Cond.fieldLink RX0 36 "BranchNotes$Desk" "clashes" "I", Cond.fieldLink RX0 40 "BranchNotes$Desk" "right" "I", Cond.methodLink RX5 168 yX3_changeDesk, Cond.instanceMethod yX3_changeDesk, Cond.selects RX3 yX3_changeDesk yX3_changeDesk, Cond.code yX3_changeDesk cX3_changeDesk 4 none, Cond.fieldLink RX3 34 "BranchNotes$Desk" "settings" "[I", Cond.methodLink RX3 35 yX3_beginAnew, Cond.instanceMethod yX3_beginAnew, Cond.selects RX3 yX3_beginAnew yX3_beginAnew, Cond.code yX3_beginAnew cX3_beginAnew 2 none, Cond.methodLink RX3 64 yX0_beginAnew, Cond.instanceMethod yX0_beginAnew, Cond.selects RX0 yX0_beginAnew yX0_beginAnew, Cond.code yX0_beginAnew cX0_beginAnew 2 none]
def wsL_call_r10 : List Cond := [Cond.constant RX0 49 (-99999), Cond.methodLink RX0 43 yJ7_fill_53178, Cond.static yJ7_fill_53178, Cond.initialized RJ7, Cond.code yJ7_fill_53178 cJ7_fill_53178 4 none, Cond.methodLink RX3 67 yJ7_fill_53178, Cond.methodLink RL 123 yL_trySet, Cond.static yL_trySet, Cond.codeWith yL_trySet cL_trySet 4 (some .int) [(0, 6, 7, 13)], Cond.methodLink RL 60 yX5_set, Cond.instanceMethod yX5_set, Cond.selects RX5 yX5_set yX5_set, Cond.code yX5_set cX5_set 4 (some .int), Cond.methodLink RX5 172 yX5_isCommonSetting, Cond.static yX5_isCommonSetting, Cond.code yX5_isCommonSetting cX5_isCommonSetting 2 (some .boolean), Cond.fieldLink RX5 256 "BranchNotes" "COMMON_LEAST" "[I", Cond.fieldLink RX5 259 "BranchNotes" "COMMON_MOST" "[I", Cond.methodLink RX5 177 yX3_changeBoth, Cond.instanceMethod yX3_changeBoth, Cond.selects RX3 yX3_changeBoth yX3_changeBoth, Cond.code yX3_changeBoth cX3_changeBoth 3 none, Cond.methodLink RL 126 yL_tryGrow, Cond.static yL_tryGrow]
def wsL_call_r11 : List Cond := [Cond.codeWith yL_tryGrow cL_tryGrow 5 (some .int) [(0, 7, 8, 24), (0, 7, 13, 13)], Cond.methodLink RL 63 yX5_strengthen, Cond.instanceMethod yX5_strengthen, Cond.selects RX5 yX5_strengthen yX5_strengthen, Cond.code yX5_strengthen cX5_strengthen 5 (some .int), Cond.methodLink RX5 184 yX3_isStrength, Cond.instanceMethod yX3_isStrength, Cond.selects RX3 yX3_isStrength yX3_isStrength, Cond.code yX3_isStrength cX3_isStrength 2 (some .boolean), Cond.methodLink RL 129 yL_tryPlay, Cond.static yL_tryPlay, Cond.codeWith yL_tryPlay cL_tryPlay 2 (some .int) [(0, 4, 5, 31)], Cond.methodLink RL 66 yX5_play, Cond.instanceMethod yX5_play, Cond.selects RX5 yX5_play yX5_play, Cond.code yX5_play cX5_play 2 (some .int), Cond.methodLink RX5 193 yX4_isPlayable, Cond.instanceMethod yX4_isPlayable, Cond.selects RX4 yX4_isPlayable yX4_isPlayable, Cond.code yX4_isPlayable cX4_isPlayable 1 (some .boolean), Cond.constant RX4 29 (-99999), Cond.fieldLink RX4 30 "BranchNotes$Text" "stepCount" "I", Cond.methodLink RX4 25 yX4_read, Cond.instanceMethod yX4_read]
def wsL_call_r12 : List Cond := [Cond.selects RX4 yX4_read yX4_read, Cond.code yX4_read cX4_read 2 (some .int), Cond.fieldLink RX4 33 "BranchNotes$Text" "open" "I", Cond.fieldLink RX4 36 "BranchNotes$Text" "expected" "I", Cond.methodLink RX4 39 yX4_readCharacter, Cond.instanceMethod yX4_readCharacter, Cond.selects RX4 yX4_readCharacter yX4_readCharacter, Cond.code yX4_readCharacter cX4_readCharacter 2 (some .boolean), Cond.methodLink RX4 43 yX4_readSign, Cond.instanceMethod yX4_readSign, Cond.selects RX4 yX4_readSign yX4_readSign, Cond.code yX4_readSign cX4_readSign 2 (some .boolean), Cond.fieldLink RX4 15 "BranchNotes$Text" "steps" "[I", Cond.fieldLink RX4 52 "BranchNotes$Text" "letter" "I", Cond.methodLink RX4 46 yX4_readDigit, Cond.instanceMethod yX4_readDigit, Cond.selects RX4 yX4_readDigit yX4_readDigit, Cond.code yX4_readDigit cX4_readDigit 2 (some .boolean), Cond.fieldLink RX4 18 "BranchNotes$Text" "starts" "[I", Cond.methodLink RX4 55 yX4_repeatFrom, Cond.instanceMethod yX4_repeatFrom, Cond.selects RX4 yX4_repeatFrom yX4_repeatFrom, Cond.code yX4_repeatFrom cX4_repeatFrom 6 none, Cond.methodLink RX4 49 yX4_readItem]
def wsL_call_r13 : List Cond := [Cond.instanceMethod yX4_readItem, Cond.selects RX4 yX4_readItem yX4_readItem, Cond.code yX4_readItem cX4_readItem 2 (some .boolean), Cond.methodLink RX5 199 yX3_goAll, Cond.instanceMethod yX3_goAll, Cond.selects RX3 yX3_goAll yX3_goAll, Cond.code yX3_goAll cX3_goAll 4 none, Cond.fieldLink RX3 103 "BranchNotes$Text" "stepCount" "I", Cond.fieldLink RX3 108 "BranchNotes$Text" "steps" "[I", Cond.methodLink RX3 111 yX3_go, Cond.instanceMethod yX3_go, Cond.selects RX3 yX3_go yX3_go, Cond.code yX3_go cX3_go 7 (some .boolean), Cond.methodLink RX3 87 yX3_countGuess, Cond.instanceMethod yX3_countGuess, Cond.selects RX3 yX3_countGuess yX3_countGuess, Cond.code yX3_countGuess cX3_countGuess 4 none, Cond.methodLink RX3 115 Lib.Math.max.name, Cond.static Lib.Math.max.name, Cond.initialized "java/lang/Math", Cond.code Lib.Math.max.name Lib.Math.max.code 2 (some .int), Cond.methodLink RX3 91 yX3_moveChooser, Cond.instanceMethod yX3_moveChooser, Cond.selects RX3 yX3_moveChooser yX3_moveChooser]
def wsL_call_r14 : List Cond := [Cond.code yX3_moveChooser cX3_moveChooser 3 none, Cond.methodLink RX3 120 Lib.Math.min.name, Cond.static Lib.Math.min.name, Cond.code Lib.Math.min.name Lib.Math.min.code 2 (some .int), Cond.methodLink RX3 95 yX3_noteFor, Cond.methodLink RX3 96 yX0_use, Cond.instanceMethod yX0_use, Cond.selects RX0 yX0_use yX0_use, Cond.code yX0_use cX0_use 5 none, Cond.methodLink RX0 54 Lib.Math.min.name, Cond.methodLink RX0 60 Lib.Math.max.name, Cond.methodLink RX3 100 yX0_changePath, Cond.instanceMethod yX0_changePath, Cond.selects RX0 yX0_changePath yX0_changePath, Cond.code yX0_changePath cX0_changePath 4 none, Cond.methodLink RL 133 yL_tryUndo, Cond.static yL_tryUndo, Cond.codeWith yL_tryUndo cL_tryUndo 2 (some .int) [(0, 4, 5, 31)], Cond.methodLink RL 70 yX5_undo, Cond.instanceMethod yX5_undo, Cond.selects RX5 yX5_undo yX5_undo, Cond.code yX5_undo cX5_undo 1 (some .int), Cond.fieldLink RX5 209 "BranchNotes$History" "count" "I", Cond.methodLink RX5 203 yX1_takeBack]
def wsL_call_r15 : List Cond := [Cond.instanceMethod yX1_takeBack, Cond.selects RX1 yX1_takeBack yX1_takeBack, Cond.code yX1_takeBack cX1_takeBack 2 (some .boolean), Cond.methodLink RL 136 yL_tryMixing, Cond.static yL_tryMixing, Cond.codeWith yL_tryMixing cL_tryMixing 3 (some .int) [(0, 5, 6, 24)], Cond.methodLink RL 73 yX5_bestMixing, Cond.instanceMethod yX5_bestMixing, Cond.selects RX5 yX5_bestMixing yX5_bestMixing, Cond.code yX5_bestMixing cX5_bestMixing 2 (some .int), Cond.methodLink RX5 215 yX5_bestSetting, Cond.instanceMethod yX5_bestSetting, Cond.selects RX5 yX5_bestSetting yX5_bestSetting, Cond.code yX5_bestSetting cX5_bestSetting 6 (some .int), Cond.fieldLink RX5 23 "BranchNotes" "trial" "LBranchNotes$State;", Cond.methodLink RX5 212 yX3_copyFrom, Cond.methodLink RL 139 yL_tryLength, Cond.static yL_tryLength, Cond.codeWith yL_tryLength cL_tryLength 3 (some .int) [(0, 5, 6, 24)], Cond.methodLink RL 76 yX5_bestLength, Cond.instanceMethod yX5_bestLength, Cond.selects RX5 yX5_bestLength yX5_bestLength, Cond.code yX5_bestLength cX5_bestLength 2 (some .int), Cond.methodLink RL 142 yL_trySharing]
def wsL_call_r16 : List Cond := [Cond.static yL_trySharing, Cond.codeWith yL_trySharing cL_trySharing 4 (some .int) [(0, 6, 7, 24)], Cond.methodLink RL 79 yX5_sharing, Cond.instanceMethod yX5_sharing, Cond.selects RX5 yX5_sharing yX5_sharing, Cond.code yX5_sharing cX5_sharing 6 (some .int), Cond.methodLink RL 145 yL_tryHolds, Cond.static yL_tryHolds, Cond.codeWith yL_tryHolds cL_tryHolds 3 (some .int) [(0, 5, 6, 24)], Cond.methodLink RL 82 yX5_holds, Cond.instanceMethod yX5_holds, Cond.selects RX5 yX5_holds yX5_holds, Cond.code yX5_holds cX5_holds 4 (some .int), Cond.methodLink RX5 189 yX3_go, Cond.methodLink RL 148 yL_tryKeep, Cond.static yL_tryKeep, Cond.codeWith yL_tryKeep cL_tryKeep 3 (some .int) [(0, 5, 6, 24)], Cond.methodLink RL 85 yX5_save, Cond.instanceMethod yX5_save, Cond.selects RX5 yX5_save yX5_save, Cond.code yX5_save cX5_save 2 (some .int), Cond.fieldLink RX5 33 "BranchNotes" "slots" "[LBranchNotes$State;", Cond.fieldLink RX5 37 "BranchNotes" "saved" "[Z", Cond.methodLink RX5 248 yX5_checkSlot]
def wsL_call_r17 : List Cond := [Cond.static yX5_checkSlot, Cond.code yX5_checkSlot cX5_checkSlot 1 none, Cond.methodLink RL 151 yL_tryBack, Cond.static yL_tryBack, Cond.codeWith yL_tryBack cL_tryBack 3 (some .int) [(0, 5, 6, 24), (0, 5, 10, 31)], Cond.methodLink RL 88 yX5_restore, Cond.instanceMethod yX5_restore, Cond.selects RX5 yX5_restore yX5_restore, Cond.code yX5_restore cX5_restore 2 (some .int)]
def wsL_call : List Cond := .code yL_call cL_call 5 (some .int) :: ((wsL_call_r1 ++ (wsL_call_r2 ++ (wsL_call_r3 ++ (wsL_call_r4 ++ (wsL_call_r5 ++ (wsL_call_r6 ++ (wsL_call_r7 ++ (wsL_call_r8 ++ (wsL_call_r9 ++ (wsL_call_r10 ++ (wsL_call_r11 ++ (wsL_call_r12 ++ (wsL_call_r13 ++ (wsL_call_r14 ++ (wsL_call_r15 ++ (wsL_call_r16 ++ wsL_call_r17)))))))))))))))) ++ wsX50 ++ wsX40 ++ wsX30 ++ wsX00 ++ wsX10 ++ (vx_atS RX5 45 "java/lang/IllegalArgumentException" ["java/lang/RuntimeException", "java/lang/Exception"]).filter goodWord ++ (vx_atS RX5 56 "java/lang/IllegalStateException" ["java/lang/RuntimeException", "java/lang/Exception"]).filter goodWord ++ (vx_atS RX5 269 "java/lang/IndexOutOfBoundsException" ["java/lang/RuntimeException", "java/lang/Exception"]).filter goodWord)
def wsL_cell : List Cond := .code yL_cell cL_cell 2 (some .int) :: ([.constant RL 154 (15518147), .constant RL 155 (2147483647)])
def wsL_refuses_r1 : List Cond := [Cond.constant RL 15 (-9999002), Cond.constant RL 26 (-9999001), Cond.constantLong RL 172 (100000), Cond.constantLong RL 174 (-1), Cond.methodLink RL 156 yL_call, Cond.static yL_call, Cond.initialized RL, Cond.code yL_call cL_call 5 (some .int), Cond.methodLink RL 91 yL_tryAppend, Cond.static yL_tryAppend, Cond.codeWith yL_tryAppend cL_tryAppend 3 (some .int) [(0, 5, 6, 13), (0, 5, 10, 31)], Cond.classLink RL 13 "java/lang/IllegalArgumentException", Cond.classLink RL 31 "java/lang/IllegalStateException", Cond.constant RL 33 (-9999003), Cond.methodLink RL 27 yX5_append, Cond.instanceMethod yX5_append, Cond.selects RX5 yX5_append yX5_append, Cond.initialized RX5, Cond.code yX5_append cX5_append 2 (some .int), Cond.classLink RX5 41 "java/lang/IllegalArgumentException", Cond.initialized "java/lang/IllegalArgumentException", Cond.classLink RX5 52 "java/lang/IllegalStateException", Cond.initialized "java/lang/IllegalStateException", Cond.fieldLink RX5 10 "BranchNotes" "text" "LBranchNotes$Text;"]
def wsL_refuses_r2 : List Cond := [Cond.fieldLink RX5 57 "BranchNotes$Text" "length" "I", Cond.methodLink RX5 48 yX4_add, Cond.instanceMethod yX4_add, Cond.selects RX4 yX4_add yX4_add, Cond.initialized RX4, Cond.code yX4_add cX4_add 2 (some .boolean), Cond.fieldLink RX4 21 "BranchNotes$Text" "length" "I", Cond.fieldLink RX4 11 "BranchNotes$Text" "codes" "[I", Cond.methodLink RL 97 yL_tryAbout, Cond.static yL_tryAbout, Cond.codeWith yL_tryAbout cL_tryAbout 3 (some .int) [(0, 5, 6, 13)], Cond.methodLink RL 34 yX5_about, Cond.instanceMethod yX5_about, Cond.selects RX5 yX5_about yX5_about, Cond.code yX5_about cX5_about 2 (some .int), Cond.fieldLink RX5 19 "BranchNotes" "state" "LBranchNotes$State;", Cond.fieldLink RX5 69 "BranchNotes$State" "gone" "I", Cond.fieldLink RX5 72 "BranchNotes$State" "right" "I", Cond.fieldLink RX5 75 "BranchNotes$State" "points" "I", Cond.fieldLink RX5 78 "BranchNotes$State" "desks" "[LBranchNotes$Desk;", Cond.fieldLink RX5 82 "BranchNotes$Desk" "clashes" "I", Cond.fieldLink RX5 87 "BranchNotes$State" "series" "I", Cond.fieldLink RX5 90 "BranchNotes$State" "longestSeries" "I", Cond.fieldLink RX5 93 "BranchNotes$State" "settings" "[I"]
def wsL_refuses_r3 : List Cond := [Cond.methodLink RL 100 yL_tryDesk, Cond.static yL_tryDesk, Cond.codeWith yL_tryDesk cL_tryDesk 4 (some .int) [(0, 6, 7, 24), (0, 6, 11, 13)], Cond.classLink RL 24 "java/lang/IndexOutOfBoundsException", Cond.methodLink RL 37 yX5_desk, Cond.instanceMethod yX5_desk, Cond.selects RX5 yX5_desk yX5_desk, Cond.code yX5_desk cX5_desk 4 (some .int), Cond.fieldLink RX5 103 "BranchNotes$Desk" "settings" "[I", Cond.fieldLink RX5 104 "BranchNotes$Desk" "right" "I", Cond.methodLink RX5 99 yX5_checkDesk, Cond.static yX5_checkDesk, Cond.code yX5_checkDesk cX5_checkDesk 1 none, Cond.classLink RX5 265 "java/lang/IndexOutOfBoundsException", Cond.initialized "java/lang/IndexOutOfBoundsException", Cond.methodLink RX5 262 yX5_isDesk, Cond.static yX5_isDesk, Cond.code yX5_isDesk cX5_isDesk 1 (some .boolean), Cond.methodLink RX5 105 yX0_countUsed, Cond.instanceMethod yX0_countUsed, Cond.selects RX0 yX0_countUsed yX0_countUsed, Cond.initialized RX0, Cond.code yX0_countUsed cX0_countUsed 3 (some .int), Cond.fieldLink RX0 21 "BranchNotes$Desk" "uses" "[I"]
def wsL_refuses_r4 : List Cond := [Cond.methodLink RL 104 yL_tryNote, Cond.static yL_tryNote, Cond.codeWith yL_tryNote cL_tryNote 5 (some .int) [(0, 7, 8, 24), (0, 7, 13, 13)], Cond.methodLink RL 41 yX5_note, Cond.instanceMethod yX5_note, Cond.selects RX5 yX5_note yX5_note, Cond.code yX5_note cX5_note 5 (some .int), Cond.fieldLink RX5 113 "BranchNotes$Desk" "strengths" "[I", Cond.fieldLink RX5 116 "BranchNotes$Desk" "lastPlaces" "[I", Cond.fieldLink RX5 119 "BranchNotes$Desk" "uses" "[I", Cond.fieldLink RX5 122 "BranchNotes$Desk" "rights" "[I", Cond.methodLink RX5 110 yX5_checkNote, Cond.instanceMethod yX5_checkNote, Cond.selects RX5 yX5_checkNote yX5_checkNote, Cond.code yX5_checkNote cX5_checkNote 2 none, Cond.methodLink RX5 277 yX3_isNote, Cond.instanceMethod yX3_isNote, Cond.selects RX3 yX3_isNote yX3_isNote, Cond.initialized RX3, Cond.code yX3_isNote cX3_isNote 2 (some .boolean), Cond.fieldLink RX3 9 "BranchNotes$State" "settings" "[I", Cond.methodLink RL 108 yL_tryPlace, Cond.static yL_tryPlace, Cond.codeWith yL_tryPlace cL_tryPlace 4 (some .int) [(0, 6, 7, 24), (0, 6, 11, 13)]]
def wsL_refuses_r5 : List Cond := [Cond.methodLink RL 45 yX5_place, Cond.instanceMethod yX5_place, Cond.selects RX5 yX5_place yX5_place, Cond.code yX5_place cX5_place 3 (some .int), Cond.fieldLink RX5 130 "BranchNotes$State" "goneAt" "[I", Cond.fieldLink RX5 133 "BranchNotes$State" "takenAt" "[I", Cond.fieldLink RX5 136 "BranchNotes$State" "rightAt" "[I", Cond.fieldLink RX5 139 "BranchNotes$State" "choosers" "[I", Cond.methodLink RX5 127 yX5_checkPlace, Cond.static yX5_checkPlace, Cond.code yX5_checkPlace cX5_checkPlace 1 none, Cond.methodLink RX5 270 yX5_isPlace, Cond.static yX5_isPlace, Cond.code yX5_isPlace cX5_isPlace 1 (some .boolean), Cond.methodLink RX5 142 yX3_guessFor, Cond.instanceMethod yX3_guessFor, Cond.selects RX3 yX3_guessFor yX3_guessFor, Cond.code yX3_guessFor cX3_guessFor 2 (some .boolean), Cond.fieldLink RX3 21 "BranchNotes$State" "choosers" "[I", Cond.methodLink RX3 83 yX3_deskSays, Cond.instanceMethod yX3_deskSays, Cond.selects RX3 yX3_deskSays yX3_deskSays, Cond.code yX3_deskSays cX3_deskSays 4 (some .boolean), Cond.fieldLink RX3 17 "BranchNotes$State" "desks" "[LBranchNotes$Desk;"]
def wsL_refuses_r6 : List Cond := [Cond.fieldLink RX3 80 "BranchNotes$Desk" "strengths" "[I", Cond.methodLink RX3 76 yX0_noteFor, Cond.instanceMethod yX0_noteFor, Cond.selects RX0 yX0_noteFor yX0_noteFor, Cond.code yX0_noteFor cX0_noteFor 5 (some .int), Cond.fieldLink RX0 9 "BranchNotes$Desk" "settings" "[I", Cond.methodLink RX0 50 yX0_pathFor, Cond.instanceMethod yX0_pathFor, Cond.selects RX0 yX0_pathFor yX0_pathFor, Cond.code yX0_pathFor cX0_pathFor 2 (some .int), Cond.fieldLink RX0 27 "BranchNotes$Desk" "paths" "[I", Cond.methodLink RL 111 yL_tryPath, Cond.static yL_tryPath, Cond.codeWith yL_tryPath cL_tryPath 4 (some .int) [(0, 6, 7, 24)], Cond.methodLink RL 48 yX5_path, Cond.instanceMethod yX5_path, Cond.selects RX5 yX5_path yX5_path, Cond.code yX5_path cX5_path 3 (some .int), Cond.methodLink RX5 147 yX0_pathFor, Cond.methodLink RL 114 yL_tryNumber, Cond.static yL_tryNumber, Cond.codeWith yL_tryNumber cL_tryNumber 4 (some .int) [(0, 6, 7, 24)], Cond.methodLink RL 51 yX5_noteOf, Cond.instanceMethod yX5_noteOf]
def wsL_refuses_r7 : List Cond := [Cond.selects RX5 yX5_noteOf yX5_noteOf, Cond.code yX5_noteOf cX5_noteOf 3 (some .int), Cond.methodLink RX5 151 yX3_noteFor, Cond.instanceMethod yX3_noteFor, Cond.selects RX3 yX3_noteFor yX3_noteFor, Cond.code yX3_noteFor cX3_noteFor 3 (some .int), Cond.methodLink RL 117 yL_tryShare, Cond.static yL_tryShare, Cond.codeWith yL_tryShare cL_tryShare 3 (some .int) [(0, 5, 6, 24)], Cond.methodLink RL 54 yX5_share, Cond.instanceMethod yX5_share, Cond.selects RX5 yX5_share yX5_share, Cond.code yX5_share cX5_share 3 (some .int), Cond.constant RX5 65 (-99999), Cond.methodLink RX5 155 yX5_quotientBits, Cond.static yX5_quotientBits, Cond.code yX5_quotientBits cX5_quotientBits 7 (some .int), Cond.constantLong RX5 282 (2), Cond.methodLink RL 120 yL_tryTune, Cond.static yL_tryTune, Cond.codeWith yL_tryTune cL_tryTune 5 (some .int) [(0, 7, 8, 24), (0, 7, 13, 13)], Cond.methodLink RL 57 yX5_setDesk, Cond.instanceMethod yX5_setDesk, Cond.selects RX5 yX5_setDesk yX5_setDesk]
def wsL_refuses_r8 : List Cond := [Cond.code yX5_setDesk cX5_setDesk 5 (some .int), Cond.fieldLink RX5 29 "BranchNotes" "history" "LBranchNotes$History;", Cond.methodLink RX5 158 yX5_isDeskSetting, Cond.static yX5_isDeskSetting, Cond.code yX5_isDeskSetting cX5_isDeskSetting 2 (some .boolean), Cond.fieldLink RX5 253 "BranchNotes" "DESK_MOST" "[I", Cond.methodLink RX5 164 yX1_remember, Cond.instanceMethod yX1_remember, Cond.selects RX1 yX1_remember yX1_remember, Cond.initialized RX1, Cond.code yX1_remember cX1_remember 2 none, Cond.fieldLink RX1 16 "BranchNotes$History" "count" "I", Cond.fieldLink RX1 20 "BranchNotes$History" "oldest" "I", Cond.fieldLink RX1 11 "BranchNotes$History" "ring" "[LBranchNotes$State;", Cond.methodLink RX1 23 yX3_copyFrom, Cond.instanceMethod yX3_copyFrom, Cond.selects RX3 yX3_copyFrom yX3_copyFrom, Cond.code yX3_copyFrom cX3_copyFrom 3 none, Cond.methodLink RX3 38 arraycopyName, Cond.native arraycopyName, Cond.static arraycopyName, Cond.initialized "java/lang/System", Cond.fieldLink RX3 24 "BranchNotes$State" "goneAt" "[I", Cond.fieldLink RX3 27 "BranchNotes$State" "takenAt" "[I"]
def wsL_refuses_r9 : List Cond := [Cond.fieldLink RX3 30 "BranchNotes$State" "rightAt" "[I", Cond.fieldLink RX3 48 "BranchNotes$State" "gone" "I", Cond.fieldLink RX3 52 "BranchNotes$State" "right" "I", Cond.fieldLink RX3 55 "BranchNotes$State" "points" "I", Cond.fieldLink RX3 58 "BranchNotes$State" "series" "I", Cond.fieldLink RX3 61 "BranchNotes$State" "longestSeries" "I", Cond.methodLink RX3 44 yX0_copyFrom, Cond.instanceMethod yX0_copyFrom, Cond.selects RX0 yX0_copyFrom yX0_copyFrom, Cond.code yX0_copyFrom cX0_copyFrom 2 none, Cond.methodLink RX0 30 arraycopyName, Cond.fieldLink RX0 15 "BranchNotes$Desk" "strengths" "[I", Cond.fieldLink RX0 18 "BranchNotes$Desk" "lastPlaces" "[I", Cond.fieldLink RX0 24 "BranchNotes$Desk" "rights" "[I", Cond.fieldLink RX0 36 "BranchNotes$Desk" "clashes" "I", Cond.fieldLink RX0 40 "BranchNotes$Desk" "right" "I", Cond.methodLink RX5 168 yX3_changeDesk, Cond.instanceMethod yX3_changeDesk, Cond.selects RX3 yX3_changeDesk yX3_changeDesk, Cond.code yX3_changeDesk cX3_changeDesk 4 none, Cond.fieldLink RX3 34 "BranchNotes$Desk" "settings" "[I", Cond.methodLink RX3 35 yX3_beginAnew, Cond.instanceMethod yX3_beginAnew, Cond.selects RX3 yX3_beginAnew yX3_beginAnew]
def wsL_refuses_r10 : List Cond := [Cond.code yX3_beginAnew cX3_beginAnew 2 none, Cond.methodLink RX3 64 yX0_beginAnew, Cond.instanceMethod yX0_beginAnew, Cond.selects RX0 yX0_beginAnew yX0_beginAnew, Cond.code yX0_beginAnew cX0_beginAnew 2 none, Cond.constant RX0 49 (-99999), Cond.methodLink RX0 43 yJ7_fill_53178, Cond.static yJ7_fill_53178, Cond.initialized RJ7, Cond.code yJ7_fill_53178 cJ7_fill_53178 4 none, Cond.methodLink RX3 67 yJ7_fill_53178, Cond.methodLink RL 123 yL_trySet, Cond.static yL_trySet, Cond.codeWith yL_trySet cL_trySet 4 (some .int) [(0, 6, 7, 13)], Cond.methodLink RL 60 yX5_set, Cond.instanceMethod yX5_set, Cond.selects RX5 yX5_set yX5_set, Cond.code yX5_set cX5_set 4 (some .int), Cond.methodLink RX5 172 yX5_isCommonSetting, Cond.static yX5_isCommonSetting, Cond.code yX5_isCommonSetting cX5_isCommonSetting 2 (some .boolean), Cond.fieldLink RX5 256 "BranchNotes" "COMMON_LEAST" "[I", Cond.fieldLink RX5 259 "BranchNotes" "COMMON_MOST" "[I", Cond.methodLink RX5 177 yX3_changeBoth]
def wsL_refuses_r11 : List Cond := [Cond.instanceMethod yX3_changeBoth, Cond.selects RX3 yX3_changeBoth yX3_changeBoth, Cond.code yX3_changeBoth cX3_changeBoth 3 none, Cond.methodLink RL 126 yL_tryGrow, Cond.static yL_tryGrow, Cond.codeWith yL_tryGrow cL_tryGrow 5 (some .int) [(0, 7, 8, 24), (0, 7, 13, 13)], Cond.methodLink RL 63 yX5_strengthen, Cond.instanceMethod yX5_strengthen, Cond.selects RX5 yX5_strengthen yX5_strengthen, Cond.code yX5_strengthen cX5_strengthen 5 (some .int), Cond.methodLink RX5 184 yX3_isStrength, Cond.instanceMethod yX3_isStrength, Cond.selects RX3 yX3_isStrength yX3_isStrength, Cond.code yX3_isStrength cX3_isStrength 2 (some .boolean), Cond.methodLink RL 129 yL_tryPlay, Cond.static yL_tryPlay, Cond.codeWith yL_tryPlay cL_tryPlay 2 (some .int) [(0, 4, 5, 31)], Cond.methodLink RL 66 yX5_play, Cond.instanceMethod yX5_play, Cond.selects RX5 yX5_play yX5_play, Cond.code yX5_play cX5_play 2 (some .int), Cond.methodLink RX5 193 yX4_isPlayable, Cond.instanceMethod yX4_isPlayable, Cond.selects RX4 yX4_isPlayable yX4_isPlayable]
def wsL_refuses_r12 : List Cond := [Cond.code yX4_isPlayable cX4_isPlayable 1 (some .boolean), Cond.constant RX4 29 (-99999), Cond.fieldLink RX4 30 "BranchNotes$Text" "stepCount" "I", Cond.methodLink RX4 25 yX4_read, Cond.instanceMethod yX4_read, Cond.selects RX4 yX4_read yX4_read, Cond.code yX4_read cX4_read 2 (some .int), Cond.fieldLink RX4 33 "BranchNotes$Text" "open" "I", Cond.fieldLink RX4 36 "BranchNotes$Text" "expected" "I", Cond.methodLink RX4 39 yX4_readCharacter, Cond.instanceMethod yX4_readCharacter, Cond.selects RX4 yX4_readCharacter yX4_readCharacter, Cond.code yX4_readCharacter cX4_readCharacter 2 (some .boolean), Cond.methodLink RX4 43 yX4_readSign, Cond.instanceMethod yX4_readSign, Cond.selects RX4 yX4_readSign yX4_readSign, Cond.code yX4_readSign cX4_readSign 2 (some .boolean), Cond.fieldLink RX4 15 "BranchNotes$Text" "steps" "[I", Cond.fieldLink RX4 52 "BranchNotes$Text" "letter" "I", Cond.methodLink RX4 46 yX4_readDigit, Cond.instanceMethod yX4_readDigit, Cond.selects RX4 yX4_readDigit yX4_readDigit, Cond.code yX4_readDigit cX4_readDigit 2 (some .boolean), Cond.fieldLink RX4 18 "BranchNotes$Text" "starts" "[I"]
def wsL_refuses_r13 : List Cond := [Cond.methodLink RX4 55 yX4_repeatFrom, Cond.instanceMethod yX4_repeatFrom, Cond.selects RX4 yX4_repeatFrom yX4_repeatFrom, Cond.code yX4_repeatFrom cX4_repeatFrom 6 none, Cond.methodLink RX4 49 yX4_readItem, Cond.instanceMethod yX4_readItem, Cond.selects RX4 yX4_readItem yX4_readItem, Cond.code yX4_readItem cX4_readItem 2 (some .boolean), Cond.methodLink RX5 199 yX3_goAll, Cond.instanceMethod yX3_goAll, Cond.selects RX3 yX3_goAll yX3_goAll, Cond.code yX3_goAll cX3_goAll 4 none, Cond.fieldLink RX3 103 "BranchNotes$Text" "stepCount" "I", Cond.fieldLink RX3 108 "BranchNotes$Text" "steps" "[I", Cond.methodLink RX3 111 yX3_go, Cond.instanceMethod yX3_go, Cond.selects RX3 yX3_go yX3_go, Cond.code yX3_go cX3_go 7 (some .boolean), Cond.methodLink RX3 87 yX3_countGuess, Cond.instanceMethod yX3_countGuess, Cond.selects RX3 yX3_countGuess yX3_countGuess, Cond.code yX3_countGuess cX3_countGuess 4 none, Cond.methodLink RX3 115 Lib.Math.max.name, Cond.static Lib.Math.max.name]
def wsL_refuses_r14 : List Cond := [Cond.initialized "java/lang/Math", Cond.code Lib.Math.max.name Lib.Math.max.code 2 (some .int), Cond.methodLink RX3 91 yX3_moveChooser, Cond.instanceMethod yX3_moveChooser, Cond.selects RX3 yX3_moveChooser yX3_moveChooser, Cond.code yX3_moveChooser cX3_moveChooser 3 none, Cond.methodLink RX3 120 Lib.Math.min.name, Cond.static Lib.Math.min.name, Cond.code Lib.Math.min.name Lib.Math.min.code 2 (some .int), Cond.methodLink RX3 95 yX3_noteFor, Cond.methodLink RX3 96 yX0_use, Cond.instanceMethod yX0_use, Cond.selects RX0 yX0_use yX0_use, Cond.code yX0_use cX0_use 5 none, Cond.methodLink RX0 54 Lib.Math.min.name, Cond.methodLink RX0 60 Lib.Math.max.name, Cond.methodLink RX3 100 yX0_changePath, Cond.instanceMethod yX0_changePath, Cond.selects RX0 yX0_changePath yX0_changePath, Cond.code yX0_changePath cX0_changePath 4 none, Cond.methodLink RL 133 yL_tryUndo, Cond.static yL_tryUndo, Cond.codeWith yL_tryUndo cL_tryUndo 2 (some .int) [(0, 4, 5, 31)], Cond.methodLink RL 70 yX5_undo]
def wsL_refuses_r15 : List Cond := [Cond.instanceMethod yX5_undo, Cond.selects RX5 yX5_undo yX5_undo, Cond.code yX5_undo cX5_undo 1 (some .int), Cond.fieldLink RX5 209 "BranchNotes$History" "count" "I", Cond.methodLink RX5 203 yX1_takeBack, Cond.instanceMethod yX1_takeBack, Cond.selects RX1 yX1_takeBack yX1_takeBack, Cond.code yX1_takeBack cX1_takeBack 2 (some .boolean), Cond.methodLink RL 136 yL_tryMixing, Cond.static yL_tryMixing, Cond.codeWith yL_tryMixing cL_tryMixing 3 (some .int) [(0, 5, 6, 24)], Cond.methodLink RL 73 yX5_bestMixing, Cond.instanceMethod yX5_bestMixing, Cond.selects RX5 yX5_bestMixing yX5_bestMixing, Cond.code yX5_bestMixing cX5_bestMixing 2 (some .int), Cond.methodLink RX5 215 yX5_bestSetting, Cond.instanceMethod yX5_bestSetting, Cond.selects RX5 yX5_bestSetting yX5_bestSetting, Cond.code yX5_bestSetting cX5_bestSetting 6 (some .int), Cond.fieldLink RX5 23 "BranchNotes" "trial" "LBranchNotes$State;", Cond.methodLink RX5 212 yX3_copyFrom, Cond.methodLink RL 139 yL_tryLength, Cond.static yL_tryLength, Cond.codeWith yL_tryLength cL_tryLength 3 (some .int) [(0, 5, 6, 24)]]
def wsL_refuses_r16 : List Cond := [Cond.methodLink RL 76 yX5_bestLength, Cond.instanceMethod yX5_bestLength, Cond.selects RX5 yX5_bestLength yX5_bestLength, Cond.code yX5_bestLength cX5_bestLength 2 (some .int), Cond.methodLink RL 142 yL_trySharing, Cond.static yL_trySharing, Cond.codeWith yL_trySharing cL_trySharing 4 (some .int) [(0, 6, 7, 24)], Cond.methodLink RL 79 yX5_sharing, Cond.instanceMethod yX5_sharing, Cond.selects RX5 yX5_sharing yX5_sharing, Cond.code yX5_sharing cX5_sharing 6 (some .int), Cond.methodLink RL 145 yL_tryHolds, Cond.static yL_tryHolds, Cond.codeWith yL_tryHolds cL_tryHolds 3 (some .int) [(0, 5, 6, 24)], Cond.methodLink RL 82 yX5_holds, Cond.instanceMethod yX5_holds, Cond.selects RX5 yX5_holds yX5_holds, Cond.code yX5_holds cX5_holds 4 (some .int), Cond.methodLink RX5 189 yX3_go, Cond.methodLink RL 148 yL_tryKeep, Cond.static yL_tryKeep, Cond.codeWith yL_tryKeep cL_tryKeep 3 (some .int) [(0, 5, 6, 24)], Cond.methodLink RL 85 yX5_save, Cond.instanceMethod yX5_save]
def wsL_refuses_r17 : List Cond := [Cond.selects RX5 yX5_save yX5_save, Cond.code yX5_save cX5_save 2 (some .int), Cond.fieldLink RX5 33 "BranchNotes" "slots" "[LBranchNotes$State;", Cond.fieldLink RX5 37 "BranchNotes" "saved" "[Z", Cond.methodLink RX5 248 yX5_checkSlot, Cond.static yX5_checkSlot, Cond.code yX5_checkSlot cX5_checkSlot 1 none, Cond.methodLink RL 151 yL_tryBack, Cond.static yL_tryBack, Cond.codeWith yL_tryBack cL_tryBack 3 (some .int) [(0, 5, 6, 24), (0, 5, 10, 31)], Cond.methodLink RL 88 yX5_restore, Cond.instanceMethod yX5_restore, Cond.selects RX5 yX5_restore yX5_restore, Cond.code yX5_restore cX5_restore 2 (some .int), Cond.methodLink RL 160 yL_tryGo, Cond.static yL_tryGo, Cond.codeWith yL_tryGo cL_tryGo 4 (some .int) [(0, 14, 15, 24)], Cond.methodLink RL 20 yX5_branch, Cond.instanceMethod yX5_branch, Cond.selects RX5 yX5_branch yX5_branch, Cond.code yX5_branch cX5_branch 3 (some .boolean), Cond.methodLink RL 164 yL_trySimulate, Cond.static yL_trySimulate, Cond.codeWith yL_trySimulate cL_trySimulate 5 (some .int) [(0, 6, 7, 13)]]
def wsL_refuses_r18 : List Cond := [Cond.methodLink RL 16 yX5_simulate, Cond.instanceMethod yX5_simulate, Cond.selects RX5 yX5_simulate yX5_simulate, Cond.code yX5_simulate cX5_simulate 10 (some .int), Cond.constantLong RX5 236 (6364136223846793005), Cond.constantLong RX5 238 (1442695040888963407), Cond.methodLink RX5 243 Lib.Math.min.name, Cond.methodLink RX5 240 yX3_allClashes, Cond.instanceMethod yX3_allClashes, Cond.selects RX3 yX3_allClashes yX3_allClashes, Cond.code yX3_allClashes cX3_allClashes 1 (some .int), Cond.fieldLink RX3 73 "BranchNotes$Desk" "clashes" "I", Cond.methodLink RL 168 yL_tryScript, Cond.static yL_tryScript, Cond.codeWith yL_tryScript cL_tryScript 5 (some .int) [(0, 6, 7, 13)], Cond.methodLink RL 7 yX5_runScript, Cond.instanceMethod yX5_runScript, Cond.selects RX5 yX5_runScript yX5_runScript, Cond.code yX5_runScript cX5_runScript 5 (some .int), Cond.constantLong RX5 226 (100000), Cond.methodLink RX5 220 yX5_withoutLastGroups, Cond.static yX5_withoutLastGroups, Cond.code yX5_withoutLastGroups cX5_withoutLastGroups 6 (some .long), Cond.methodLink RX5 228 yX2_succeeds]
def wsL_refuses_r19 : List Cond := [Cond.static yX2_succeeds, Cond.initialized RX2, Cond.code yX2_succeeds cX2_succeeds 8 (some .boolean), Cond.fieldLink RX2 30 "BranchNotes$State" "right" "I", Cond.fieldLink RX2 45 "BranchNotes$State" "desks" "[LBranchNotes$Desk;", Cond.fieldLink RX2 49 "BranchNotes$Desk" "strengths" "[I", Cond.fieldLink RX2 55 "BranchNotes$State" "points" "I", Cond.methodLink RX2 7 yX2_goOften, Cond.static yX2_goOften, Cond.code yX2_goOften cX2_goOften 5 (some .boolean), Cond.methodLink RX2 61 yX3_go, Cond.methodLink RX2 13 yX2_changeDesk, Cond.static yX2_changeDesk, Cond.code yX2_changeDesk cX2_changeDesk 4 (some .boolean), Cond.methodLink RX2 69 yX3_changeDesk, Cond.methodLink RX2 16 yX2_changeBoth, Cond.static yX2_changeBoth, Cond.code yX2_changeBoth cX2_changeBoth 3 (some .boolean), Cond.methodLink RX2 75 yX3_changeBoth, Cond.methodLink RX2 20 yX2_forgetAll, Cond.static yX2_forgetAll, Cond.code yX2_forgetAll cX2_forgetAll 1 (some .boolean), Cond.methodLink RX2 78 yX3_beginAnew, Cond.methodLink RX2 24 yX2_makeStrength]
def wsL_refuses_r20 : List Cond := [Cond.static yX2_makeStrength, Cond.code yX2_makeStrength cX2_makeStrength 4 (some .boolean), Cond.methodLink RX2 42 yX3_isNote, Cond.methodLink RX2 81 yX3_isStrength, Cond.methodLink RX2 27 yX2_isGuess, Cond.static yX2_isGuess, Cond.code yX2_isGuess cX2_isGuess 3 (some .boolean), Cond.methodLink RX2 84 yX3_guessFor]
def wsL_refuses : List Cond := .code yL_refuses cL_refuses 5 (some .boolean) :: ((wsL_refuses_r1 ++ (wsL_refuses_r2 ++ (wsL_refuses_r3 ++ (wsL_refuses_r4 ++ (wsL_refuses_r5 ++ (wsL_refuses_r6 ++ (wsL_refuses_r7 ++ (wsL_refuses_r8 ++ (wsL_refuses_r9 ++ (wsL_refuses_r10 ++ (wsL_refuses_r11 ++ (wsL_refuses_r12 ++ (wsL_refuses_r13 ++ (wsL_refuses_r14 ++ (wsL_refuses_r15 ++ (wsL_refuses_r16 ++ (wsL_refuses_r17 ++ (wsL_refuses_r18 ++ (wsL_refuses_r19 ++ wsL_refuses_r20))))))))))))))))))) ++ wsX50 ++ wsX40 ++ wsX30 ++ wsX00 ++ wsX10 ++ (vx_atS RX5 45 "java/lang/IllegalArgumentException" ["java/lang/RuntimeException", "java/lang/Exception"]).filter goodWord ++ (vx_atS RX5 56 "java/lang/IllegalStateException" ["java/lang/RuntimeException", "java/lang/Exception"]).filter goodWord ++ (vx_atS RX5 269 "java/lang/IndexOutOfBoundsException" ["java/lang/RuntimeException", "java/lang/Exception"]).filter goodWord)
def wsL_alike_r1 : List Cond := [Cond.methodLink RL 176 yX5_errorPosition, Cond.instanceMethod yX5_errorPosition, Cond.selects RX5 yX5_errorPosition yX5_errorPosition, Cond.initialized RX5, Cond.code yX5_errorPosition cX5_errorPosition 1 (some .int), Cond.fieldLink RX5 10 "BranchNotes" "text" "LBranchNotes$Text;", Cond.methodLink RX5 61 yX4_read, Cond.instanceMethod yX4_read, Cond.selects RX4 yX4_read yX4_read, Cond.initialized RX4, Cond.code yX4_read cX4_read 2 (some .int), Cond.fieldLink RX4 30 "BranchNotes$Text" "stepCount" "I", Cond.fieldLink RX4 33 "BranchNotes$Text" "open" "I", Cond.fieldLink RX4 36 "BranchNotes$Text" "expected" "I", Cond.fieldLink RX4 21 "BranchNotes$Text" "length" "I", Cond.fieldLink RX4 11 "BranchNotes$Text" "codes" "[I", Cond.constant RX4 29 (-99999), Cond.methodLink RX4 39 yX4_readCharacter, Cond.instanceMethod yX4_readCharacter, Cond.selects RX4 yX4_readCharacter yX4_readCharacter, Cond.code yX4_readCharacter cX4_readCharacter 2 (some .boolean), Cond.methodLink RX4 43 yX4_readSign, Cond.instanceMethod yX4_readSign, Cond.selects RX4 yX4_readSign yX4_readSign]
def wsL_alike_r2 : List Cond := [Cond.code yX4_readSign cX4_readSign 2 (some .boolean), Cond.fieldLink RX4 15 "BranchNotes$Text" "steps" "[I", Cond.fieldLink RX4 52 "BranchNotes$Text" "letter" "I", Cond.methodLink RX4 46 yX4_readDigit, Cond.instanceMethod yX4_readDigit, Cond.selects RX4 yX4_readDigit yX4_readDigit, Cond.code yX4_readDigit cX4_readDigit 2 (some .boolean), Cond.fieldLink RX4 18 "BranchNotes$Text" "starts" "[I", Cond.methodLink RX4 55 yX4_repeatFrom, Cond.instanceMethod yX4_repeatFrom, Cond.selects RX4 yX4_repeatFrom yX4_repeatFrom, Cond.code yX4_repeatFrom cX4_repeatFrom 6 none, Cond.methodLink RX4 49 yX4_readItem, Cond.instanceMethod yX4_readItem, Cond.selects RX4 yX4_readItem yX4_readItem, Cond.code yX4_readItem cX4_readItem 2 (some .boolean), Cond.methodLink RL 179 yX5_branches, Cond.instanceMethod yX5_branches, Cond.selects RX5 yX5_branches yX5_branches, Cond.code yX5_branches cX5_branches 1 (some .int), Cond.constant RX5 65 (-99999), Cond.fieldLink RX5 66 "BranchNotes$Text" "stepCount" "I", Cond.methodLink RL 182 yX5_wouldBring, Cond.instanceMethod yX5_wouldBring]
def wsL_alike_r3 : List Cond := [Cond.selects RX5 yX5_wouldBring yX5_wouldBring, Cond.code yX5_wouldBring cX5_wouldBring 1 (some .int), Cond.fieldLink RX5 23 "BranchNotes" "trial" "LBranchNotes$State;", Cond.fieldLink RX5 19 "BranchNotes" "state" "LBranchNotes$State;", Cond.fieldLink RX5 75 "BranchNotes$State" "points" "I", Cond.methodLink RX5 193 yX4_isPlayable, Cond.instanceMethod yX4_isPlayable, Cond.selects RX4 yX4_isPlayable yX4_isPlayable, Cond.code yX4_isPlayable cX4_isPlayable 1 (some .boolean), Cond.methodLink RX4 25 yX4_read, Cond.methodLink RX5 212 yX3_copyFrom, Cond.instanceMethod yX3_copyFrom, Cond.selects RX3 yX3_copyFrom yX3_copyFrom, Cond.initialized RX3, Cond.code yX3_copyFrom cX3_copyFrom 3 none, Cond.fieldLink RX3 9 "BranchNotes$State" "settings" "[I", Cond.methodLink RX3 38 arraycopyName, Cond.native arraycopyName, Cond.static arraycopyName, Cond.initialized "java/lang/System", Cond.fieldLink RX3 17 "BranchNotes$State" "desks" "[LBranchNotes$Desk;", Cond.fieldLink RX3 21 "BranchNotes$State" "choosers" "[I", Cond.fieldLink RX3 24 "BranchNotes$State" "goneAt" "[I", Cond.fieldLink RX3 27 "BranchNotes$State" "takenAt" "[I"]
def wsL_alike_r4 : List Cond := [Cond.fieldLink RX3 30 "BranchNotes$State" "rightAt" "[I", Cond.fieldLink RX3 48 "BranchNotes$State" "gone" "I", Cond.fieldLink RX3 52 "BranchNotes$State" "right" "I", Cond.fieldLink RX3 55 "BranchNotes$State" "points" "I", Cond.fieldLink RX3 58 "BranchNotes$State" "series" "I", Cond.fieldLink RX3 61 "BranchNotes$State" "longestSeries" "I", Cond.methodLink RX3 44 yX0_copyFrom, Cond.instanceMethod yX0_copyFrom, Cond.selects RX0 yX0_copyFrom yX0_copyFrom, Cond.initialized RX0, Cond.code yX0_copyFrom cX0_copyFrom 2 none, Cond.fieldLink RX0 9 "BranchNotes$Desk" "settings" "[I", Cond.methodLink RX0 30 arraycopyName, Cond.fieldLink RX0 15 "BranchNotes$Desk" "strengths" "[I", Cond.fieldLink RX0 18 "BranchNotes$Desk" "lastPlaces" "[I", Cond.fieldLink RX0 21 "BranchNotes$Desk" "uses" "[I", Cond.fieldLink RX0 24 "BranchNotes$Desk" "rights" "[I", Cond.fieldLink RX0 27 "BranchNotes$Desk" "paths" "[I", Cond.fieldLink RX0 36 "BranchNotes$Desk" "clashes" "I", Cond.fieldLink RX0 40 "BranchNotes$Desk" "right" "I", Cond.methodLink RX5 199 yX3_goAll, Cond.instanceMethod yX3_goAll, Cond.selects RX3 yX3_goAll yX3_goAll, Cond.code yX3_goAll cX3_goAll 4 none]
def wsL_alike_r5 : List Cond := [Cond.fieldLink RX3 103 "BranchNotes$Text" "stepCount" "I", Cond.fieldLink RX3 108 "BranchNotes$Text" "steps" "[I", Cond.methodLink RX3 111 yX3_go, Cond.instanceMethod yX3_go, Cond.selects RX3 yX3_go yX3_go, Cond.code yX3_go cX3_go 7 (some .boolean), Cond.methodLink RX3 83 yX3_deskSays, Cond.instanceMethod yX3_deskSays, Cond.selects RX3 yX3_deskSays yX3_deskSays, Cond.code yX3_deskSays cX3_deskSays 4 (some .boolean), Cond.fieldLink RX3 80 "BranchNotes$Desk" "strengths" "[I", Cond.methodLink RX3 76 yX0_noteFor, Cond.instanceMethod yX0_noteFor, Cond.selects RX0 yX0_noteFor yX0_noteFor, Cond.code yX0_noteFor cX0_noteFor 5 (some .int), Cond.methodLink RX0 50 yX0_pathFor, Cond.instanceMethod yX0_pathFor, Cond.selects RX0 yX0_pathFor yX0_pathFor, Cond.code yX0_pathFor cX0_pathFor 2 (some .int), Cond.methodLink RX3 87 yX3_countGuess, Cond.instanceMethod yX3_countGuess, Cond.selects RX3 yX3_countGuess yX3_countGuess, Cond.code yX3_countGuess cX3_countGuess 4 none, Cond.methodLink RX3 115 Lib.Math.max.name]
def wsL_alike_r6 : List Cond := [Cond.static Lib.Math.max.name, Cond.initialized "java/lang/Math", Cond.code Lib.Math.max.name Lib.Math.max.code 2 (some .int), Cond.methodLink RX3 91 yX3_moveChooser, Cond.instanceMethod yX3_moveChooser, Cond.selects RX3 yX3_moveChooser yX3_moveChooser, Cond.code yX3_moveChooser cX3_moveChooser 3 none, Cond.methodLink RX3 120 Lib.Math.min.name, Cond.static Lib.Math.min.name, Cond.code Lib.Math.min.name Lib.Math.min.code 2 (some .int), Cond.methodLink RX3 95 yX3_noteFor, Cond.instanceMethod yX3_noteFor, Cond.selects RX3 yX3_noteFor yX3_noteFor, Cond.code yX3_noteFor cX3_noteFor 3 (some .int), Cond.methodLink RX3 96 yX0_use, Cond.instanceMethod yX0_use, Cond.selects RX0 yX0_use yX0_use, Cond.code yX0_use cX0_use 5 none, Cond.methodLink RX0 54 Lib.Math.min.name, Cond.methodLink RX0 60 Lib.Math.max.name, Cond.methodLink RX3 100 yX0_changePath, Cond.instanceMethod yX0_changePath, Cond.selects RX0 yX0_changePath yX0_changePath, Cond.code yX0_changePath cX0_changePath 4 none]
def wsL_alike_r7 : List Cond := [Cond.methodLink RL 185 yX5_worst, Cond.instanceMethod yX5_worst, Cond.selects RX5 yX5_worst yX5_worst, Cond.code yX5_worst cX5_worst 5 (some .int), Cond.fieldLink RX5 130 "BranchNotes$State" "goneAt" "[I", Cond.fieldLink RX5 136 "BranchNotes$State" "rightAt" "[I", Cond.methodLink RL 156 yL_call, Cond.static yL_call, Cond.initialized RL, Cond.code yL_call cL_call 5 (some .int), Cond.methodLink RL 91 yL_tryAppend, Cond.static yL_tryAppend, Cond.codeWith yL_tryAppend cL_tryAppend 3 (some .int) [(0, 5, 6, 13), (0, 5, 10, 31)], Cond.classLink RL 13 "java/lang/IllegalArgumentException", Cond.classLink RL 31 "java/lang/IllegalStateException", Cond.constant RL 15 (-9999002), Cond.constant RL 33 (-9999003), Cond.methodLink RL 27 yX5_append, Cond.instanceMethod yX5_append, Cond.selects RX5 yX5_append yX5_append, Cond.code yX5_append cX5_append 2 (some .int), Cond.classLink RX5 41 "java/lang/IllegalArgumentException", Cond.initialized "java/lang/IllegalArgumentException", Cond.classLink RX5 52 "java/lang/IllegalStateException"]
def wsL_alike_r8 : List Cond := [Cond.initialized "java/lang/IllegalStateException", Cond.fieldLink RX5 57 "BranchNotes$Text" "length" "I", Cond.methodLink RX5 48 yX4_add, Cond.instanceMethod yX4_add, Cond.selects RX4 yX4_add yX4_add, Cond.code yX4_add cX4_add 2 (some .boolean), Cond.methodLink RL 97 yL_tryAbout, Cond.static yL_tryAbout, Cond.codeWith yL_tryAbout cL_tryAbout 3 (some .int) [(0, 5, 6, 13)], Cond.methodLink RL 34 yX5_about, Cond.instanceMethod yX5_about, Cond.selects RX5 yX5_about yX5_about, Cond.code yX5_about cX5_about 2 (some .int), Cond.fieldLink RX5 69 "BranchNotes$State" "gone" "I", Cond.fieldLink RX5 72 "BranchNotes$State" "right" "I", Cond.fieldLink RX5 78 "BranchNotes$State" "desks" "[LBranchNotes$Desk;", Cond.fieldLink RX5 82 "BranchNotes$Desk" "clashes" "I", Cond.fieldLink RX5 87 "BranchNotes$State" "series" "I", Cond.fieldLink RX5 90 "BranchNotes$State" "longestSeries" "I", Cond.fieldLink RX5 93 "BranchNotes$State" "settings" "[I", Cond.methodLink RL 100 yL_tryDesk, Cond.static yL_tryDesk, Cond.codeWith yL_tryDesk cL_tryDesk 4 (some .int) [(0, 6, 7, 24), (0, 6, 11, 13)], Cond.classLink RL 24 "java/lang/IndexOutOfBoundsException"]
def wsL_alike_r9 : List Cond := [Cond.constant RL 26 (-9999001), Cond.methodLink RL 37 yX5_desk, Cond.instanceMethod yX5_desk, Cond.selects RX5 yX5_desk yX5_desk, Cond.code yX5_desk cX5_desk 4 (some .int), Cond.fieldLink RX5 103 "BranchNotes$Desk" "settings" "[I", Cond.fieldLink RX5 104 "BranchNotes$Desk" "right" "I", Cond.methodLink RX5 99 yX5_checkDesk, Cond.static yX5_checkDesk, Cond.code yX5_checkDesk cX5_checkDesk 1 none, Cond.classLink RX5 265 "java/lang/IndexOutOfBoundsException", Cond.initialized "java/lang/IndexOutOfBoundsException", Cond.methodLink RX5 262 yX5_isDesk, Cond.static yX5_isDesk, Cond.code yX5_isDesk cX5_isDesk 1 (some .boolean), Cond.methodLink RX5 105 yX0_countUsed, Cond.instanceMethod yX0_countUsed, Cond.selects RX0 yX0_countUsed yX0_countUsed, Cond.code yX0_countUsed cX0_countUsed 3 (some .int), Cond.methodLink RL 104 yL_tryNote, Cond.static yL_tryNote, Cond.codeWith yL_tryNote cL_tryNote 5 (some .int) [(0, 7, 8, 24), (0, 7, 13, 13)], Cond.methodLink RL 41 yX5_note, Cond.instanceMethod yX5_note]
def wsL_alike_r10 : List Cond := [Cond.selects RX5 yX5_note yX5_note, Cond.code yX5_note cX5_note 5 (some .int), Cond.fieldLink RX5 113 "BranchNotes$Desk" "strengths" "[I", Cond.fieldLink RX5 116 "BranchNotes$Desk" "lastPlaces" "[I", Cond.fieldLink RX5 119 "BranchNotes$Desk" "uses" "[I", Cond.fieldLink RX5 122 "BranchNotes$Desk" "rights" "[I", Cond.methodLink RX5 110 yX5_checkNote, Cond.instanceMethod yX5_checkNote, Cond.selects RX5 yX5_checkNote yX5_checkNote, Cond.code yX5_checkNote cX5_checkNote 2 none, Cond.methodLink RX5 277 yX3_isNote, Cond.instanceMethod yX3_isNote, Cond.selects RX3 yX3_isNote yX3_isNote, Cond.code yX3_isNote cX3_isNote 2 (some .boolean), Cond.methodLink RL 108 yL_tryPlace, Cond.static yL_tryPlace, Cond.codeWith yL_tryPlace cL_tryPlace 4 (some .int) [(0, 6, 7, 24), (0, 6, 11, 13)], Cond.methodLink RL 45 yX5_place, Cond.instanceMethod yX5_place, Cond.selects RX5 yX5_place yX5_place, Cond.code yX5_place cX5_place 3 (some .int), Cond.fieldLink RX5 133 "BranchNotes$State" "takenAt" "[I", Cond.fieldLink RX5 139 "BranchNotes$State" "choosers" "[I", Cond.methodLink RX5 127 yX5_checkPlace]
def wsL_alike_r11 : List Cond := [Cond.static yX5_checkPlace, Cond.code yX5_checkPlace cX5_checkPlace 1 none, Cond.methodLink RX5 270 yX5_isPlace, Cond.static yX5_isPlace, Cond.code yX5_isPlace cX5_isPlace 1 (some .boolean), Cond.methodLink RX5 142 yX3_guessFor, Cond.instanceMethod yX3_guessFor, Cond.selects RX3 yX3_guessFor yX3_guessFor, Cond.code yX3_guessFor cX3_guessFor 2 (some .boolean), Cond.methodLink RL 111 yL_tryPath, Cond.static yL_tryPath, Cond.codeWith yL_tryPath cL_tryPath 4 (some .int) [(0, 6, 7, 24)], Cond.methodLink RL 48 yX5_path, Cond.instanceMethod yX5_path, Cond.selects RX5 yX5_path yX5_path, Cond.code yX5_path cX5_path 3 (some .int), Cond.methodLink RX5 147 yX0_pathFor, Cond.methodLink RL 114 yL_tryNumber, Cond.static yL_tryNumber, Cond.codeWith yL_tryNumber cL_tryNumber 4 (some .int) [(0, 6, 7, 24)], Cond.methodLink RL 51 yX5_noteOf, Cond.instanceMethod yX5_noteOf, Cond.selects RX5 yX5_noteOf yX5_noteOf, Cond.code yX5_noteOf cX5_noteOf 3 (some .int)]
def wsL_alike_r12 : List Cond := [Cond.methodLink RX5 151 yX3_noteFor, Cond.methodLink RL 117 yL_tryShare, Cond.static yL_tryShare, Cond.codeWith yL_tryShare cL_tryShare 3 (some .int) [(0, 5, 6, 24)], Cond.methodLink RL 54 yX5_share, Cond.instanceMethod yX5_share, Cond.selects RX5 yX5_share yX5_share, Cond.code yX5_share cX5_share 3 (some .int), Cond.methodLink RX5 155 yX5_quotientBits, Cond.static yX5_quotientBits, Cond.code yX5_quotientBits cX5_quotientBits 7 (some .int), Cond.constantLong RX5 282 (2), Cond.methodLink RL 120 yL_tryTune, Cond.static yL_tryTune, Cond.codeWith yL_tryTune cL_tryTune 5 (some .int) [(0, 7, 8, 24), (0, 7, 13, 13)], Cond.methodLink RL 57 yX5_setDesk, Cond.instanceMethod yX5_setDesk, Cond.selects RX5 yX5_setDesk yX5_setDesk, Cond.code yX5_setDesk cX5_setDesk 5 (some .int), Cond.fieldLink RX5 29 "BranchNotes" "history" "LBranchNotes$History;", Cond.methodLink RX5 158 yX5_isDeskSetting, Cond.static yX5_isDeskSetting, Cond.code yX5_isDeskSetting cX5_isDeskSetting 2 (some .boolean), Cond.fieldLink RX5 253 "BranchNotes" "DESK_MOST" "[I"]
def wsL_alike_r13 : List Cond := [Cond.methodLink RX5 164 yX1_remember, Cond.instanceMethod yX1_remember, Cond.selects RX1 yX1_remember yX1_remember, Cond.initialized RX1, Cond.code yX1_remember cX1_remember 2 none, Cond.fieldLink RX1 16 "BranchNotes$History" "count" "I", Cond.fieldLink RX1 20 "BranchNotes$History" "oldest" "I", Cond.fieldLink RX1 11 "BranchNotes$History" "ring" "[LBranchNotes$State;", Cond.methodLink RX1 23 yX3_copyFrom, Cond.methodLink RX5 168 yX3_changeDesk, Cond.instanceMethod yX3_changeDesk, Cond.selects RX3 yX3_changeDesk yX3_changeDesk, Cond.code yX3_changeDesk cX3_changeDesk 4 none, Cond.fieldLink RX3 34 "BranchNotes$Desk" "settings" "[I", Cond.methodLink RX3 35 yX3_beginAnew, Cond.instanceMethod yX3_beginAnew, Cond.selects RX3 yX3_beginAnew yX3_beginAnew, Cond.code yX3_beginAnew cX3_beginAnew 2 none, Cond.methodLink RX3 64 yX0_beginAnew, Cond.instanceMethod yX0_beginAnew, Cond.selects RX0 yX0_beginAnew yX0_beginAnew, Cond.code yX0_beginAnew cX0_beginAnew 2 none, Cond.constant RX0 49 (-99999), Cond.methodLink RX0 43 yJ7_fill_53178]
def wsL_alike_r14 : List Cond := [Cond.static yJ7_fill_53178, Cond.initialized RJ7, Cond.code yJ7_fill_53178 cJ7_fill_53178 4 none, Cond.methodLink RX3 67 yJ7_fill_53178, Cond.methodLink RL 123 yL_trySet, Cond.static yL_trySet, Cond.codeWith yL_trySet cL_trySet 4 (some .int) [(0, 6, 7, 13)], Cond.methodLink RL 60 yX5_set, Cond.instanceMethod yX5_set, Cond.selects RX5 yX5_set yX5_set, Cond.code yX5_set cX5_set 4 (some .int), Cond.methodLink RX5 172 yX5_isCommonSetting, Cond.static yX5_isCommonSetting, Cond.code yX5_isCommonSetting cX5_isCommonSetting 2 (some .boolean), Cond.fieldLink RX5 256 "BranchNotes" "COMMON_LEAST" "[I", Cond.fieldLink RX5 259 "BranchNotes" "COMMON_MOST" "[I", Cond.methodLink RX5 177 yX3_changeBoth, Cond.instanceMethod yX3_changeBoth, Cond.selects RX3 yX3_changeBoth yX3_changeBoth, Cond.code yX3_changeBoth cX3_changeBoth 3 none, Cond.methodLink RL 126 yL_tryGrow, Cond.static yL_tryGrow, Cond.codeWith yL_tryGrow cL_tryGrow 5 (some .int) [(0, 7, 8, 24), (0, 7, 13, 13)], Cond.methodLink RL 63 yX5_strengthen]
def wsL_alike_r15 : List Cond := [Cond.instanceMethod yX5_strengthen, Cond.selects RX5 yX5_strengthen yX5_strengthen, Cond.code yX5_strengthen cX5_strengthen 5 (some .int), Cond.methodLink RX5 184 yX3_isStrength, Cond.instanceMethod yX3_isStrength, Cond.selects RX3 yX3_isStrength yX3_isStrength, Cond.code yX3_isStrength cX3_isStrength 2 (some .boolean), Cond.methodLink RL 129 yL_tryPlay, Cond.static yL_tryPlay, Cond.codeWith yL_tryPlay cL_tryPlay 2 (some .int) [(0, 4, 5, 31)], Cond.methodLink RL 66 yX5_play, Cond.instanceMethod yX5_play, Cond.selects RX5 yX5_play yX5_play, Cond.code yX5_play cX5_play 2 (some .int), Cond.methodLink RL 133 yL_tryUndo, Cond.static yL_tryUndo, Cond.codeWith yL_tryUndo cL_tryUndo 2 (some .int) [(0, 4, 5, 31)], Cond.methodLink RL 70 yX5_undo, Cond.instanceMethod yX5_undo, Cond.selects RX5 yX5_undo yX5_undo, Cond.code yX5_undo cX5_undo 1 (some .int), Cond.fieldLink RX5 209 "BranchNotes$History" "count" "I", Cond.methodLink RX5 203 yX1_takeBack, Cond.instanceMethod yX1_takeBack]
def wsL_alike_r16 : List Cond := [Cond.selects RX1 yX1_takeBack yX1_takeBack, Cond.code yX1_takeBack cX1_takeBack 2 (some .boolean), Cond.methodLink RL 136 yL_tryMixing, Cond.static yL_tryMixing, Cond.codeWith yL_tryMixing cL_tryMixing 3 (some .int) [(0, 5, 6, 24)], Cond.methodLink RL 73 yX5_bestMixing, Cond.instanceMethod yX5_bestMixing, Cond.selects RX5 yX5_bestMixing yX5_bestMixing, Cond.code yX5_bestMixing cX5_bestMixing 2 (some .int), Cond.methodLink RX5 215 yX5_bestSetting, Cond.instanceMethod yX5_bestSetting, Cond.selects RX5 yX5_bestSetting yX5_bestSetting, Cond.code yX5_bestSetting cX5_bestSetting 6 (some .int), Cond.methodLink RL 139 yL_tryLength, Cond.static yL_tryLength, Cond.codeWith yL_tryLength cL_tryLength 3 (some .int) [(0, 5, 6, 24)], Cond.methodLink RL 76 yX5_bestLength, Cond.instanceMethod yX5_bestLength, Cond.selects RX5 yX5_bestLength yX5_bestLength, Cond.code yX5_bestLength cX5_bestLength 2 (some .int), Cond.methodLink RL 142 yL_trySharing, Cond.static yL_trySharing, Cond.codeWith yL_trySharing cL_trySharing 4 (some .int) [(0, 6, 7, 24)], Cond.methodLink RL 79 yX5_sharing]
def wsL_alike_r17 : List Cond := [Cond.instanceMethod yX5_sharing, Cond.selects RX5 yX5_sharing yX5_sharing, Cond.code yX5_sharing cX5_sharing 6 (some .int), Cond.methodLink RL 145 yL_tryHolds, Cond.static yL_tryHolds, Cond.codeWith yL_tryHolds cL_tryHolds 3 (some .int) [(0, 5, 6, 24)], Cond.methodLink RL 82 yX5_holds, Cond.instanceMethod yX5_holds, Cond.selects RX5 yX5_holds yX5_holds, Cond.code yX5_holds cX5_holds 4 (some .int), Cond.methodLink RX5 189 yX3_go, Cond.methodLink RL 148 yL_tryKeep, Cond.static yL_tryKeep, Cond.codeWith yL_tryKeep cL_tryKeep 3 (some .int) [(0, 5, 6, 24)], Cond.methodLink RL 85 yX5_save, Cond.instanceMethod yX5_save, Cond.selects RX5 yX5_save yX5_save, Cond.code yX5_save cX5_save 2 (some .int), Cond.fieldLink RX5 33 "BranchNotes" "slots" "[LBranchNotes$State;", Cond.fieldLink RX5 37 "BranchNotes" "saved" "[Z", Cond.methodLink RX5 248 yX5_checkSlot, Cond.static yX5_checkSlot, Cond.code yX5_checkSlot cX5_checkSlot 1 none, Cond.methodLink RL 151 yL_tryBack]
def wsL_alike_r18 : List Cond := [Cond.static yL_tryBack, Cond.codeWith yL_tryBack cL_tryBack 3 (some .int) [(0, 5, 6, 24), (0, 5, 10, 31)], Cond.methodLink RL 88 yX5_restore, Cond.instanceMethod yX5_restore, Cond.selects RX5 yX5_restore yX5_restore, Cond.code yX5_restore cX5_restore 2 (some .int)]
def wsL_alike : List Cond := .code yL_alike cL_alike 5 (some .boolean) :: ((wsL_alike_r1 ++ (wsL_alike_r2 ++ (wsL_alike_r3 ++ (wsL_alike_r4 ++ (wsL_alike_r5 ++ (wsL_alike_r6 ++ (wsL_alike_r7 ++ (wsL_alike_r8 ++ (wsL_alike_r9 ++ (wsL_alike_r10 ++ (wsL_alike_r11 ++ (wsL_alike_r12 ++ (wsL_alike_r13 ++ (wsL_alike_r14 ++ (wsL_alike_r15 ++ (wsL_alike_r16 ++ (wsL_alike_r17 ++ wsL_alike_r18))))))))))))))))) ++ wsX50 ++ wsX40 ++ wsX30 ++ wsX00 ++ wsX10 ++ (vx_atS RX5 45 "java/lang/IllegalArgumentException" ["java/lang/RuntimeException", "java/lang/Exception"]).filter goodWord ++ (vx_atS RX5 56 "java/lang/IllegalStateException" ["java/lang/RuntimeException", "java/lang/Exception"]).filter goodWord ++ (vx_atS RX5 269 "java/lang/IndexOutOfBoundsException" ["java/lang/RuntimeException", "java/lang/Exception"]).filter goodWord)
def wsL_holds_r1 : List Cond := [Cond.constant RL 188 (-99999), Cond.constant RL 189 (1065353216), Cond.constant RL 33 (-9999003), Cond.methodLink RL 156 yL_call, Cond.static yL_call, Cond.initialized RL, Cond.code yL_call cL_call 5 (some .int), Cond.methodLink RL 91 yL_tryAppend, Cond.static yL_tryAppend, Cond.codeWith yL_tryAppend cL_tryAppend 3 (some .int) [(0, 5, 6, 13), (0, 5, 10, 31)], Cond.classLink RL 13 "java/lang/IllegalArgumentException", Cond.classLink RL 31 "java/lang/IllegalStateException", Cond.constant RL 15 (-9999002), Cond.methodLink RL 27 yX5_append, Cond.instanceMethod yX5_append, Cond.selects RX5 yX5_append yX5_append, Cond.initialized RX5, Cond.code yX5_append cX5_append 2 (some .int), Cond.classLink RX5 41 "java/lang/IllegalArgumentException", Cond.initialized "java/lang/IllegalArgumentException", Cond.classLink RX5 52 "java/lang/IllegalStateException", Cond.initialized "java/lang/IllegalStateException", Cond.fieldLink RX5 10 "BranchNotes" "text" "LBranchNotes$Text;", Cond.fieldLink RX5 57 "BranchNotes$Text" "length" "I"]
def wsL_holds_r2 : List Cond := [Cond.methodLink RX5 48 yX4_add, Cond.instanceMethod yX4_add, Cond.selects RX4 yX4_add yX4_add, Cond.initialized RX4, Cond.code yX4_add cX4_add 2 (some .boolean), Cond.fieldLink RX4 21 "BranchNotes$Text" "length" "I", Cond.fieldLink RX4 11 "BranchNotes$Text" "codes" "[I", Cond.methodLink RL 97 yL_tryAbout, Cond.static yL_tryAbout, Cond.codeWith yL_tryAbout cL_tryAbout 3 (some .int) [(0, 5, 6, 13)], Cond.methodLink RL 34 yX5_about, Cond.instanceMethod yX5_about, Cond.selects RX5 yX5_about yX5_about, Cond.code yX5_about cX5_about 2 (some .int), Cond.fieldLink RX5 19 "BranchNotes" "state" "LBranchNotes$State;", Cond.fieldLink RX5 69 "BranchNotes$State" "gone" "I", Cond.fieldLink RX5 72 "BranchNotes$State" "right" "I", Cond.fieldLink RX5 75 "BranchNotes$State" "points" "I", Cond.fieldLink RX5 78 "BranchNotes$State" "desks" "[LBranchNotes$Desk;", Cond.fieldLink RX5 82 "BranchNotes$Desk" "clashes" "I", Cond.fieldLink RX5 87 "BranchNotes$State" "series" "I", Cond.fieldLink RX5 90 "BranchNotes$State" "longestSeries" "I", Cond.fieldLink RX5 93 "BranchNotes$State" "settings" "[I", Cond.methodLink RL 100 yL_tryDesk]
def wsL_holds_r3 : List Cond := [Cond.static yL_tryDesk, Cond.codeWith yL_tryDesk cL_tryDesk 4 (some .int) [(0, 6, 7, 24), (0, 6, 11, 13)], Cond.classLink RL 24 "java/lang/IndexOutOfBoundsException", Cond.constant RL 26 (-9999001), Cond.methodLink RL 37 yX5_desk, Cond.instanceMethod yX5_desk, Cond.selects RX5 yX5_desk yX5_desk, Cond.code yX5_desk cX5_desk 4 (some .int), Cond.fieldLink RX5 103 "BranchNotes$Desk" "settings" "[I", Cond.fieldLink RX5 104 "BranchNotes$Desk" "right" "I", Cond.methodLink RX5 99 yX5_checkDesk, Cond.static yX5_checkDesk, Cond.code yX5_checkDesk cX5_checkDesk 1 none, Cond.classLink RX5 265 "java/lang/IndexOutOfBoundsException", Cond.initialized "java/lang/IndexOutOfBoundsException", Cond.methodLink RX5 262 yX5_isDesk, Cond.static yX5_isDesk, Cond.code yX5_isDesk cX5_isDesk 1 (some .boolean), Cond.methodLink RX5 105 yX0_countUsed, Cond.instanceMethod yX0_countUsed, Cond.selects RX0 yX0_countUsed yX0_countUsed, Cond.initialized RX0, Cond.code yX0_countUsed cX0_countUsed 3 (some .int), Cond.fieldLink RX0 21 "BranchNotes$Desk" "uses" "[I"]
def wsL_holds_r4 : List Cond := [Cond.methodLink RL 104 yL_tryNote, Cond.static yL_tryNote, Cond.codeWith yL_tryNote cL_tryNote 5 (some .int) [(0, 7, 8, 24), (0, 7, 13, 13)], Cond.methodLink RL 41 yX5_note, Cond.instanceMethod yX5_note, Cond.selects RX5 yX5_note yX5_note, Cond.code yX5_note cX5_note 5 (some .int), Cond.fieldLink RX5 113 "BranchNotes$Desk" "strengths" "[I", Cond.fieldLink RX5 116 "BranchNotes$Desk" "lastPlaces" "[I", Cond.fieldLink RX5 119 "BranchNotes$Desk" "uses" "[I", Cond.fieldLink RX5 122 "BranchNotes$Desk" "rights" "[I", Cond.methodLink RX5 110 yX5_checkNote, Cond.instanceMethod yX5_checkNote, Cond.selects RX5 yX5_checkNote yX5_checkNote, Cond.code yX5_checkNote cX5_checkNote 2 none, Cond.methodLink RX5 277 yX3_isNote, Cond.instanceMethod yX3_isNote, Cond.selects RX3 yX3_isNote yX3_isNote, Cond.initialized RX3, Cond.code yX3_isNote cX3_isNote 2 (some .boolean), Cond.fieldLink RX3 9 "BranchNotes$State" "settings" "[I", Cond.methodLink RL 108 yL_tryPlace, Cond.static yL_tryPlace, Cond.codeWith yL_tryPlace cL_tryPlace 4 (some .int) [(0, 6, 7, 24), (0, 6, 11, 13)]]
def wsL_holds_r5 : List Cond := [Cond.methodLink RL 45 yX5_place, Cond.instanceMethod yX5_place, Cond.selects RX5 yX5_place yX5_place, Cond.code yX5_place cX5_place 3 (some .int), Cond.fieldLink RX5 130 "BranchNotes$State" "goneAt" "[I", Cond.fieldLink RX5 133 "BranchNotes$State" "takenAt" "[I", Cond.fieldLink RX5 136 "BranchNotes$State" "rightAt" "[I", Cond.fieldLink RX5 139 "BranchNotes$State" "choosers" "[I", Cond.methodLink RX5 127 yX5_checkPlace, Cond.static yX5_checkPlace, Cond.code yX5_checkPlace cX5_checkPlace 1 none, Cond.methodLink RX5 270 yX5_isPlace, Cond.static yX5_isPlace, Cond.code yX5_isPlace cX5_isPlace 1 (some .boolean), Cond.methodLink RX5 142 yX3_guessFor, Cond.instanceMethod yX3_guessFor, Cond.selects RX3 yX3_guessFor yX3_guessFor, Cond.code yX3_guessFor cX3_guessFor 2 (some .boolean), Cond.fieldLink RX3 21 "BranchNotes$State" "choosers" "[I", Cond.methodLink RX3 83 yX3_deskSays, Cond.instanceMethod yX3_deskSays, Cond.selects RX3 yX3_deskSays yX3_deskSays, Cond.code yX3_deskSays cX3_deskSays 4 (some .boolean), Cond.fieldLink RX3 17 "BranchNotes$State" "desks" "[LBranchNotes$Desk;"]
def wsL_holds_r6 : List Cond := [Cond.fieldLink RX3 80 "BranchNotes$Desk" "strengths" "[I", Cond.methodLink RX3 76 yX0_noteFor, Cond.instanceMethod yX0_noteFor, Cond.selects RX0 yX0_noteFor yX0_noteFor, Cond.code yX0_noteFor cX0_noteFor 5 (some .int), Cond.fieldLink RX0 9 "BranchNotes$Desk" "settings" "[I", Cond.methodLink RX0 50 yX0_pathFor, Cond.instanceMethod yX0_pathFor, Cond.selects RX0 yX0_pathFor yX0_pathFor, Cond.code yX0_pathFor cX0_pathFor 2 (some .int), Cond.fieldLink RX0 27 "BranchNotes$Desk" "paths" "[I", Cond.methodLink RL 111 yL_tryPath, Cond.static yL_tryPath, Cond.codeWith yL_tryPath cL_tryPath 4 (some .int) [(0, 6, 7, 24)], Cond.methodLink RL 48 yX5_path, Cond.instanceMethod yX5_path, Cond.selects RX5 yX5_path yX5_path, Cond.code yX5_path cX5_path 3 (some .int), Cond.methodLink RX5 147 yX0_pathFor, Cond.methodLink RL 114 yL_tryNumber, Cond.static yL_tryNumber, Cond.codeWith yL_tryNumber cL_tryNumber 4 (some .int) [(0, 6, 7, 24)], Cond.methodLink RL 51 yX5_noteOf, Cond.instanceMethod yX5_noteOf]
def wsL_holds_r7 : List Cond := [Cond.selects RX5 yX5_noteOf yX5_noteOf, Cond.code yX5_noteOf cX5_noteOf 3 (some .int), Cond.methodLink RX5 151 yX3_noteFor, Cond.instanceMethod yX3_noteFor, Cond.selects RX3 yX3_noteFor yX3_noteFor, Cond.code yX3_noteFor cX3_noteFor 3 (some .int), Cond.methodLink RL 117 yL_tryShare, Cond.static yL_tryShare, Cond.codeWith yL_tryShare cL_tryShare 3 (some .int) [(0, 5, 6, 24)], Cond.methodLink RL 54 yX5_share, Cond.instanceMethod yX5_share, Cond.selects RX5 yX5_share yX5_share, Cond.code yX5_share cX5_share 3 (some .int), Cond.constant RX5 65 (-99999), Cond.methodLink RX5 155 yX5_quotientBits, Cond.static yX5_quotientBits, Cond.code yX5_quotientBits cX5_quotientBits 7 (some .int), Cond.constantLong RX5 282 (2), Cond.methodLink RL 120 yL_tryTune, Cond.static yL_tryTune, Cond.codeWith yL_tryTune cL_tryTune 5 (some .int) [(0, 7, 8, 24), (0, 7, 13, 13)], Cond.methodLink RL 57 yX5_setDesk, Cond.instanceMethod yX5_setDesk, Cond.selects RX5 yX5_setDesk yX5_setDesk]
def wsL_holds_r8 : List Cond := [Cond.code yX5_setDesk cX5_setDesk 5 (some .int), Cond.fieldLink RX5 29 "BranchNotes" "history" "LBranchNotes$History;", Cond.methodLink RX5 158 yX5_isDeskSetting, Cond.static yX5_isDeskSetting, Cond.code yX5_isDeskSetting cX5_isDeskSetting 2 (some .boolean), Cond.fieldLink RX5 253 "BranchNotes" "DESK_MOST" "[I", Cond.methodLink RX5 164 yX1_remember, Cond.instanceMethod yX1_remember, Cond.selects RX1 yX1_remember yX1_remember, Cond.initialized RX1, Cond.code yX1_remember cX1_remember 2 none, Cond.fieldLink RX1 16 "BranchNotes$History" "count" "I", Cond.fieldLink RX1 20 "BranchNotes$History" "oldest" "I", Cond.fieldLink RX1 11 "BranchNotes$History" "ring" "[LBranchNotes$State;", Cond.methodLink RX1 23 yX3_copyFrom, Cond.instanceMethod yX3_copyFrom, Cond.selects RX3 yX3_copyFrom yX3_copyFrom, Cond.code yX3_copyFrom cX3_copyFrom 3 none, Cond.methodLink RX3 38 arraycopyName, Cond.native arraycopyName, Cond.static arraycopyName, Cond.initialized "java/lang/System", Cond.fieldLink RX3 24 "BranchNotes$State" "goneAt" "[I", Cond.fieldLink RX3 27 "BranchNotes$State" "takenAt" "[I"]
def wsL_holds_r9 : List Cond := [Cond.fieldLink RX3 30 "BranchNotes$State" "rightAt" "[I", Cond.fieldLink RX3 48 "BranchNotes$State" "gone" "I", Cond.fieldLink RX3 52 "BranchNotes$State" "right" "I", Cond.fieldLink RX3 55 "BranchNotes$State" "points" "I", Cond.fieldLink RX3 58 "BranchNotes$State" "series" "I", Cond.fieldLink RX3 61 "BranchNotes$State" "longestSeries" "I", Cond.methodLink RX3 44 yX0_copyFrom, Cond.instanceMethod yX0_copyFrom, Cond.selects RX0 yX0_copyFrom yX0_copyFrom, Cond.code yX0_copyFrom cX0_copyFrom 2 none, Cond.methodLink RX0 30 arraycopyName, Cond.fieldLink RX0 15 "BranchNotes$Desk" "strengths" "[I", Cond.fieldLink RX0 18 "BranchNotes$Desk" "lastPlaces" "[I", Cond.fieldLink RX0 24 "BranchNotes$Desk" "rights" "[I", Cond.fieldLink RX0 36 "BranchNotes$Desk" "clashes" "I", Cond.fieldLink RX0 40 "BranchNotes$Desk" "right" "I", Cond.methodLink RX5 168 yX3_changeDesk, Cond.instanceMethod yX3_changeDesk, Cond.selects RX3 yX3_changeDesk yX3_changeDesk, Cond.code yX3_changeDesk cX3_changeDesk 4 none, Cond.fieldLink RX3 34 "BranchNotes$Desk" "settings" "[I", Cond.methodLink RX3 35 yX3_beginAnew, Cond.instanceMethod yX3_beginAnew, Cond.selects RX3 yX3_beginAnew yX3_beginAnew]
def wsL_holds_r10 : List Cond := [Cond.code yX3_beginAnew cX3_beginAnew 2 none, Cond.methodLink RX3 64 yX0_beginAnew, Cond.instanceMethod yX0_beginAnew, Cond.selects RX0 yX0_beginAnew yX0_beginAnew, Cond.code yX0_beginAnew cX0_beginAnew 2 none, Cond.constant RX0 49 (-99999), Cond.methodLink RX0 43 yJ7_fill_53178, Cond.static yJ7_fill_53178, Cond.initialized RJ7, Cond.code yJ7_fill_53178 cJ7_fill_53178 4 none, Cond.methodLink RX3 67 yJ7_fill_53178, Cond.methodLink RL 123 yL_trySet, Cond.static yL_trySet, Cond.codeWith yL_trySet cL_trySet 4 (some .int) [(0, 6, 7, 13)], Cond.methodLink RL 60 yX5_set, Cond.instanceMethod yX5_set, Cond.selects RX5 yX5_set yX5_set, Cond.code yX5_set cX5_set 4 (some .int), Cond.methodLink RX5 172 yX5_isCommonSetting, Cond.static yX5_isCommonSetting, Cond.code yX5_isCommonSetting cX5_isCommonSetting 2 (some .boolean), Cond.fieldLink RX5 256 "BranchNotes" "COMMON_LEAST" "[I", Cond.fieldLink RX5 259 "BranchNotes" "COMMON_MOST" "[I", Cond.methodLink RX5 177 yX3_changeBoth]
def wsL_holds_r11 : List Cond := [Cond.instanceMethod yX3_changeBoth, Cond.selects RX3 yX3_changeBoth yX3_changeBoth, Cond.code yX3_changeBoth cX3_changeBoth 3 none, Cond.methodLink RL 126 yL_tryGrow, Cond.static yL_tryGrow, Cond.codeWith yL_tryGrow cL_tryGrow 5 (some .int) [(0, 7, 8, 24), (0, 7, 13, 13)], Cond.methodLink RL 63 yX5_strengthen, Cond.instanceMethod yX5_strengthen, Cond.selects RX5 yX5_strengthen yX5_strengthen, Cond.code yX5_strengthen cX5_strengthen 5 (some .int), Cond.methodLink RX5 184 yX3_isStrength, Cond.instanceMethod yX3_isStrength, Cond.selects RX3 yX3_isStrength yX3_isStrength, Cond.code yX3_isStrength cX3_isStrength 2 (some .boolean), Cond.methodLink RL 129 yL_tryPlay, Cond.static yL_tryPlay, Cond.codeWith yL_tryPlay cL_tryPlay 2 (some .int) [(0, 4, 5, 31)], Cond.methodLink RL 66 yX5_play, Cond.instanceMethod yX5_play, Cond.selects RX5 yX5_play yX5_play, Cond.code yX5_play cX5_play 2 (some .int), Cond.methodLink RX5 193 yX4_isPlayable, Cond.instanceMethod yX4_isPlayable, Cond.selects RX4 yX4_isPlayable yX4_isPlayable]
def wsL_holds_r12 : List Cond := [Cond.code yX4_isPlayable cX4_isPlayable 1 (some .boolean), Cond.constant RX4 29 (-99999), Cond.fieldLink RX4 30 "BranchNotes$Text" "stepCount" "I", Cond.methodLink RX4 25 yX4_read, Cond.instanceMethod yX4_read, Cond.selects RX4 yX4_read yX4_read, Cond.code yX4_read cX4_read 2 (some .int), Cond.fieldLink RX4 33 "BranchNotes$Text" "open" "I", Cond.fieldLink RX4 36 "BranchNotes$Text" "expected" "I", Cond.methodLink RX4 39 yX4_readCharacter, Cond.instanceMethod yX4_readCharacter, Cond.selects RX4 yX4_readCharacter yX4_readCharacter, Cond.code yX4_readCharacter cX4_readCharacter 2 (some .boolean), Cond.methodLink RX4 43 yX4_readSign, Cond.instanceMethod yX4_readSign, Cond.selects RX4 yX4_readSign yX4_readSign, Cond.code yX4_readSign cX4_readSign 2 (some .boolean), Cond.fieldLink RX4 15 "BranchNotes$Text" "steps" "[I", Cond.fieldLink RX4 52 "BranchNotes$Text" "letter" "I", Cond.methodLink RX4 46 yX4_readDigit, Cond.instanceMethod yX4_readDigit, Cond.selects RX4 yX4_readDigit yX4_readDigit, Cond.code yX4_readDigit cX4_readDigit 2 (some .boolean), Cond.fieldLink RX4 18 "BranchNotes$Text" "starts" "[I"]
def wsL_holds_r13 : List Cond := [Cond.methodLink RX4 55 yX4_repeatFrom, Cond.instanceMethod yX4_repeatFrom, Cond.selects RX4 yX4_repeatFrom yX4_repeatFrom, Cond.code yX4_repeatFrom cX4_repeatFrom 6 none, Cond.methodLink RX4 49 yX4_readItem, Cond.instanceMethod yX4_readItem, Cond.selects RX4 yX4_readItem yX4_readItem, Cond.code yX4_readItem cX4_readItem 2 (some .boolean), Cond.methodLink RX5 199 yX3_goAll, Cond.instanceMethod yX3_goAll, Cond.selects RX3 yX3_goAll yX3_goAll, Cond.code yX3_goAll cX3_goAll 4 none, Cond.fieldLink RX3 103 "BranchNotes$Text" "stepCount" "I", Cond.fieldLink RX3 108 "BranchNotes$Text" "steps" "[I", Cond.methodLink RX3 111 yX3_go, Cond.instanceMethod yX3_go, Cond.selects RX3 yX3_go yX3_go, Cond.code yX3_go cX3_go 7 (some .boolean), Cond.methodLink RX3 87 yX3_countGuess, Cond.instanceMethod yX3_countGuess, Cond.selects RX3 yX3_countGuess yX3_countGuess, Cond.code yX3_countGuess cX3_countGuess 4 none, Cond.methodLink RX3 115 Lib.Math.max.name, Cond.static Lib.Math.max.name]
def wsL_holds_r14 : List Cond := [Cond.initialized "java/lang/Math", Cond.code Lib.Math.max.name Lib.Math.max.code 2 (some .int), Cond.methodLink RX3 91 yX3_moveChooser, Cond.instanceMethod yX3_moveChooser, Cond.selects RX3 yX3_moveChooser yX3_moveChooser, Cond.code yX3_moveChooser cX3_moveChooser 3 none, Cond.methodLink RX3 120 Lib.Math.min.name, Cond.static Lib.Math.min.name, Cond.code Lib.Math.min.name Lib.Math.min.code 2 (some .int), Cond.methodLink RX3 95 yX3_noteFor, Cond.methodLink RX3 96 yX0_use, Cond.instanceMethod yX0_use, Cond.selects RX0 yX0_use yX0_use, Cond.code yX0_use cX0_use 5 none, Cond.methodLink RX0 54 Lib.Math.min.name, Cond.methodLink RX0 60 Lib.Math.max.name, Cond.methodLink RX3 100 yX0_changePath, Cond.instanceMethod yX0_changePath, Cond.selects RX0 yX0_changePath yX0_changePath, Cond.code yX0_changePath cX0_changePath 4 none, Cond.methodLink RL 133 yL_tryUndo, Cond.static yL_tryUndo, Cond.codeWith yL_tryUndo cL_tryUndo 2 (some .int) [(0, 4, 5, 31)], Cond.methodLink RL 70 yX5_undo]
def wsL_holds_r15 : List Cond := [Cond.instanceMethod yX5_undo, Cond.selects RX5 yX5_undo yX5_undo, Cond.code yX5_undo cX5_undo 1 (some .int), Cond.fieldLink RX5 209 "BranchNotes$History" "count" "I", Cond.methodLink RX5 203 yX1_takeBack, Cond.instanceMethod yX1_takeBack, Cond.selects RX1 yX1_takeBack yX1_takeBack, Cond.code yX1_takeBack cX1_takeBack 2 (some .boolean), Cond.methodLink RL 136 yL_tryMixing, Cond.static yL_tryMixing, Cond.codeWith yL_tryMixing cL_tryMixing 3 (some .int) [(0, 5, 6, 24)], Cond.methodLink RL 73 yX5_bestMixing, Cond.instanceMethod yX5_bestMixing, Cond.selects RX5 yX5_bestMixing yX5_bestMixing, Cond.code yX5_bestMixing cX5_bestMixing 2 (some .int), Cond.methodLink RX5 215 yX5_bestSetting, Cond.instanceMethod yX5_bestSetting, Cond.selects RX5 yX5_bestSetting yX5_bestSetting, Cond.code yX5_bestSetting cX5_bestSetting 6 (some .int), Cond.fieldLink RX5 23 "BranchNotes" "trial" "LBranchNotes$State;", Cond.methodLink RX5 212 yX3_copyFrom, Cond.methodLink RL 139 yL_tryLength, Cond.static yL_tryLength, Cond.codeWith yL_tryLength cL_tryLength 3 (some .int) [(0, 5, 6, 24)]]
def wsL_holds_r16 : List Cond := [Cond.methodLink RL 76 yX5_bestLength, Cond.instanceMethod yX5_bestLength, Cond.selects RX5 yX5_bestLength yX5_bestLength, Cond.code yX5_bestLength cX5_bestLength 2 (some .int), Cond.methodLink RL 142 yL_trySharing, Cond.static yL_trySharing, Cond.codeWith yL_trySharing cL_trySharing 4 (some .int) [(0, 6, 7, 24)], Cond.methodLink RL 79 yX5_sharing, Cond.instanceMethod yX5_sharing, Cond.selects RX5 yX5_sharing yX5_sharing, Cond.code yX5_sharing cX5_sharing 6 (some .int), Cond.methodLink RL 145 yL_tryHolds, Cond.static yL_tryHolds, Cond.codeWith yL_tryHolds cL_tryHolds 3 (some .int) [(0, 5, 6, 24)], Cond.methodLink RL 82 yX5_holds, Cond.instanceMethod yX5_holds, Cond.selects RX5 yX5_holds yX5_holds, Cond.code yX5_holds cX5_holds 4 (some .int), Cond.methodLink RX5 189 yX3_go, Cond.methodLink RL 148 yL_tryKeep, Cond.static yL_tryKeep, Cond.codeWith yL_tryKeep cL_tryKeep 3 (some .int) [(0, 5, 6, 24)], Cond.methodLink RL 85 yX5_save, Cond.instanceMethod yX5_save]
def wsL_holds_r17 : List Cond := [Cond.selects RX5 yX5_save yX5_save, Cond.code yX5_save cX5_save 2 (some .int), Cond.fieldLink RX5 33 "BranchNotes" "slots" "[LBranchNotes$State;", Cond.fieldLink RX5 37 "BranchNotes" "saved" "[Z", Cond.methodLink RX5 248 yX5_checkSlot, Cond.static yX5_checkSlot, Cond.code yX5_checkSlot cX5_checkSlot 1 none, Cond.methodLink RL 151 yL_tryBack, Cond.static yL_tryBack, Cond.codeWith yL_tryBack cL_tryBack 3 (some .int) [(0, 5, 6, 24), (0, 5, 10, 31)], Cond.methodLink RL 88 yX5_restore, Cond.instanceMethod yX5_restore, Cond.selects RX5 yX5_restore yX5_restore, Cond.code yX5_restore cX5_restore 2 (some .int), Cond.methodLink RL 160 yL_tryGo, Cond.static yL_tryGo, Cond.codeWith yL_tryGo cL_tryGo 4 (some .int) [(0, 14, 15, 24)], Cond.methodLink RL 20 yX5_branch, Cond.instanceMethod yX5_branch, Cond.selects RX5 yX5_branch yX5_branch, Cond.code yX5_branch cX5_branch 3 (some .boolean), Cond.methodLink RL 182 yX5_wouldBring, Cond.instanceMethod yX5_wouldBring, Cond.selects RX5 yX5_wouldBring yX5_wouldBring]
def wsL_holds_r18 : List Cond := [Cond.code yX5_wouldBring cX5_wouldBring 1 (some .int), Cond.methodLink RL 179 yX5_branches, Cond.instanceMethod yX5_branches, Cond.selects RX5 yX5_branches yX5_branches, Cond.code yX5_branches cX5_branches 1 (some .int), Cond.fieldLink RX5 66 "BranchNotes$Text" "stepCount" "I", Cond.methodLink RX5 61 yX4_read]
def wsL_holds : List Cond := .code yL_holds cL_holds 11 (some .boolean) :: ((wsL_holds_r1 ++ (wsL_holds_r2 ++ (wsL_holds_r3 ++ (wsL_holds_r4 ++ (wsL_holds_r5 ++ (wsL_holds_r6 ++ (wsL_holds_r7 ++ (wsL_holds_r8 ++ (wsL_holds_r9 ++ (wsL_holds_r10 ++ (wsL_holds_r11 ++ (wsL_holds_r12 ++ (wsL_holds_r13 ++ (wsL_holds_r14 ++ (wsL_holds_r15 ++ (wsL_holds_r16 ++ (wsL_holds_r17 ++ wsL_holds_r18))))))))))))))))) ++ wsX50 ++ wsX40 ++ wsX30 ++ wsX00 ++ wsX10 ++ (vx_atS RX5 45 "java/lang/IllegalArgumentException" ["java/lang/RuntimeException", "java/lang/Exception"]).filter goodWord ++ (vx_atS RX5 56 "java/lang/IllegalStateException" ["java/lang/RuntimeException", "java/lang/Exception"]).filter goodWord ++ (vx_atS RX5 269 "java/lang/IndexOutOfBoundsException" ["java/lang/RuntimeException", "java/lang/Exception"]).filter goodWord)
def wsL_act_r1 : List Cond := [Cond.methodLink RL 156 yL_call, Cond.static yL_call, Cond.initialized RL, Cond.code yL_call cL_call 5 (some .int), Cond.methodLink RL 91 yL_tryAppend, Cond.static yL_tryAppend, Cond.codeWith yL_tryAppend cL_tryAppend 3 (some .int) [(0, 5, 6, 13), (0, 5, 10, 31)], Cond.classLink RL 13 "java/lang/IllegalArgumentException", Cond.classLink RL 31 "java/lang/IllegalStateException", Cond.constant RL 15 (-9999002), Cond.constant RL 33 (-9999003), Cond.methodLink RL 27 yX5_append, Cond.instanceMethod yX5_append, Cond.selects RX5 yX5_append yX5_append, Cond.initialized RX5, Cond.code yX5_append cX5_append 2 (some .int), Cond.classLink RX5 41 "java/lang/IllegalArgumentException", Cond.initialized "java/lang/IllegalArgumentException", Cond.classLink RX5 52 "java/lang/IllegalStateException", Cond.initialized "java/lang/IllegalStateException", Cond.fieldLink RX5 10 "BranchNotes" "text" "LBranchNotes$Text;", Cond.fieldLink RX5 57 "BranchNotes$Text" "length" "I", Cond.methodLink RX5 48 yX4_add, Cond.instanceMethod yX4_add]
def wsL_act_r2 : List Cond := [Cond.selects RX4 yX4_add yX4_add, Cond.initialized RX4, Cond.code yX4_add cX4_add 2 (some .boolean), Cond.fieldLink RX4 21 "BranchNotes$Text" "length" "I", Cond.fieldLink RX4 11 "BranchNotes$Text" "codes" "[I", Cond.methodLink RL 97 yL_tryAbout, Cond.static yL_tryAbout, Cond.codeWith yL_tryAbout cL_tryAbout 3 (some .int) [(0, 5, 6, 13)], Cond.methodLink RL 34 yX5_about, Cond.instanceMethod yX5_about, Cond.selects RX5 yX5_about yX5_about, Cond.code yX5_about cX5_about 2 (some .int), Cond.fieldLink RX5 19 "BranchNotes" "state" "LBranchNotes$State;", Cond.fieldLink RX5 69 "BranchNotes$State" "gone" "I", Cond.fieldLink RX5 72 "BranchNotes$State" "right" "I", Cond.fieldLink RX5 75 "BranchNotes$State" "points" "I", Cond.fieldLink RX5 78 "BranchNotes$State" "desks" "[LBranchNotes$Desk;", Cond.fieldLink RX5 82 "BranchNotes$Desk" "clashes" "I", Cond.fieldLink RX5 87 "BranchNotes$State" "series" "I", Cond.fieldLink RX5 90 "BranchNotes$State" "longestSeries" "I", Cond.fieldLink RX5 93 "BranchNotes$State" "settings" "[I", Cond.methodLink RL 100 yL_tryDesk, Cond.static yL_tryDesk, Cond.codeWith yL_tryDesk cL_tryDesk 4 (some .int) [(0, 6, 7, 24), (0, 6, 11, 13)]]
def wsL_act_r3 : List Cond := [Cond.classLink RL 24 "java/lang/IndexOutOfBoundsException", Cond.constant RL 26 (-9999001), Cond.methodLink RL 37 yX5_desk, Cond.instanceMethod yX5_desk, Cond.selects RX5 yX5_desk yX5_desk, Cond.code yX5_desk cX5_desk 4 (some .int), Cond.fieldLink RX5 103 "BranchNotes$Desk" "settings" "[I", Cond.fieldLink RX5 104 "BranchNotes$Desk" "right" "I", Cond.methodLink RX5 99 yX5_checkDesk, Cond.static yX5_checkDesk, Cond.code yX5_checkDesk cX5_checkDesk 1 none, Cond.classLink RX5 265 "java/lang/IndexOutOfBoundsException", Cond.initialized "java/lang/IndexOutOfBoundsException", Cond.methodLink RX5 262 yX5_isDesk, Cond.static yX5_isDesk, Cond.code yX5_isDesk cX5_isDesk 1 (some .boolean), Cond.methodLink RX5 105 yX0_countUsed, Cond.instanceMethod yX0_countUsed, Cond.selects RX0 yX0_countUsed yX0_countUsed, Cond.initialized RX0, Cond.code yX0_countUsed cX0_countUsed 3 (some .int), Cond.fieldLink RX0 21 "BranchNotes$Desk" "uses" "[I", Cond.methodLink RL 104 yL_tryNote, Cond.static yL_tryNote]
def wsL_act_r4 : List Cond := [Cond.codeWith yL_tryNote cL_tryNote 5 (some .int) [(0, 7, 8, 24), (0, 7, 13, 13)], Cond.methodLink RL 41 yX5_note, Cond.instanceMethod yX5_note, Cond.selects RX5 yX5_note yX5_note, Cond.code yX5_note cX5_note 5 (some .int), Cond.fieldLink RX5 113 "BranchNotes$Desk" "strengths" "[I", Cond.fieldLink RX5 116 "BranchNotes$Desk" "lastPlaces" "[I", Cond.fieldLink RX5 119 "BranchNotes$Desk" "uses" "[I", Cond.fieldLink RX5 122 "BranchNotes$Desk" "rights" "[I", Cond.methodLink RX5 110 yX5_checkNote, Cond.instanceMethod yX5_checkNote, Cond.selects RX5 yX5_checkNote yX5_checkNote, Cond.code yX5_checkNote cX5_checkNote 2 none, Cond.methodLink RX5 277 yX3_isNote, Cond.instanceMethod yX3_isNote, Cond.selects RX3 yX3_isNote yX3_isNote, Cond.initialized RX3, Cond.code yX3_isNote cX3_isNote 2 (some .boolean), Cond.fieldLink RX3 9 "BranchNotes$State" "settings" "[I", Cond.methodLink RL 108 yL_tryPlace, Cond.static yL_tryPlace, Cond.codeWith yL_tryPlace cL_tryPlace 4 (some .int) [(0, 6, 7, 24), (0, 6, 11, 13)], Cond.methodLink RL 45 yX5_place, Cond.instanceMethod yX5_place]
def wsL_act_r5 : List Cond := [Cond.selects RX5 yX5_place yX5_place, Cond.code yX5_place cX5_place 3 (some .int), Cond.fieldLink RX5 130 "BranchNotes$State" "goneAt" "[I", Cond.fieldLink RX5 133 "BranchNotes$State" "takenAt" "[I", Cond.fieldLink RX5 136 "BranchNotes$State" "rightAt" "[I", Cond.fieldLink RX5 139 "BranchNotes$State" "choosers" "[I", Cond.methodLink RX5 127 yX5_checkPlace, Cond.static yX5_checkPlace, Cond.code yX5_checkPlace cX5_checkPlace 1 none, Cond.methodLink RX5 270 yX5_isPlace, Cond.static yX5_isPlace, Cond.code yX5_isPlace cX5_isPlace 1 (some .boolean), Cond.methodLink RX5 142 yX3_guessFor, Cond.instanceMethod yX3_guessFor, Cond.selects RX3 yX3_guessFor yX3_guessFor, Cond.code yX3_guessFor cX3_guessFor 2 (some .boolean), Cond.fieldLink RX3 21 "BranchNotes$State" "choosers" "[I", Cond.methodLink RX3 83 yX3_deskSays, Cond.instanceMethod yX3_deskSays, Cond.selects RX3 yX3_deskSays yX3_deskSays, Cond.code yX3_deskSays cX3_deskSays 4 (some .boolean), Cond.fieldLink RX3 17 "BranchNotes$State" "desks" "[LBranchNotes$Desk;", Cond.fieldLink RX3 80 "BranchNotes$Desk" "strengths" "[I", Cond.methodLink RX3 76 yX0_noteFor]
def wsL_act_r6 : List Cond := [Cond.instanceMethod yX0_noteFor, Cond.selects RX0 yX0_noteFor yX0_noteFor, Cond.code yX0_noteFor cX0_noteFor 5 (some .int), Cond.fieldLink RX0 9 "BranchNotes$Desk" "settings" "[I", Cond.methodLink RX0 50 yX0_pathFor, Cond.instanceMethod yX0_pathFor, Cond.selects RX0 yX0_pathFor yX0_pathFor, Cond.code yX0_pathFor cX0_pathFor 2 (some .int), Cond.fieldLink RX0 27 "BranchNotes$Desk" "paths" "[I", Cond.methodLink RL 111 yL_tryPath, Cond.static yL_tryPath, Cond.codeWith yL_tryPath cL_tryPath 4 (some .int) [(0, 6, 7, 24)], Cond.methodLink RL 48 yX5_path, Cond.instanceMethod yX5_path, Cond.selects RX5 yX5_path yX5_path, Cond.code yX5_path cX5_path 3 (some .int), Cond.methodLink RX5 147 yX0_pathFor, Cond.methodLink RL 114 yL_tryNumber, Cond.static yL_tryNumber, Cond.codeWith yL_tryNumber cL_tryNumber 4 (some .int) [(0, 6, 7, 24)], Cond.methodLink RL 51 yX5_noteOf, Cond.instanceMethod yX5_noteOf, Cond.selects RX5 yX5_noteOf yX5_noteOf, Cond.code yX5_noteOf cX5_noteOf 3 (some .int)]
def wsL_act_r7 : List Cond := [Cond.methodLink RX5 151 yX3_noteFor, Cond.instanceMethod yX3_noteFor, Cond.selects RX3 yX3_noteFor yX3_noteFor, Cond.code yX3_noteFor cX3_noteFor 3 (some .int), Cond.methodLink RL 117 yL_tryShare, Cond.static yL_tryShare, Cond.codeWith yL_tryShare cL_tryShare 3 (some .int) [(0, 5, 6, 24)], Cond.methodLink RL 54 yX5_share, Cond.instanceMethod yX5_share, Cond.selects RX5 yX5_share yX5_share, Cond.code yX5_share cX5_share 3 (some .int), Cond.constant RX5 65 (-99999), Cond.methodLink RX5 155 yX5_quotientBits, Cond.static yX5_quotientBits, Cond.code yX5_quotientBits cX5_quotientBits 7 (some .int), Cond.constantLong RX5 282 (2), Cond.methodLink RL 120 yL_tryTune, Cond.static yL_tryTune, Cond.codeWith yL_tryTune cL_tryTune 5 (some .int) [(0, 7, 8, 24), (0, 7, 13, 13)], Cond.methodLink RL 57 yX5_setDesk, Cond.instanceMethod yX5_setDesk, Cond.selects RX5 yX5_setDesk yX5_setDesk, Cond.code yX5_setDesk cX5_setDesk 5 (some .int), Cond.fieldLink RX5 29 "BranchNotes" "history" "LBranchNotes$History;"]
def wsL_act_r8 : List Cond := [Cond.methodLink RX5 158 yX5_isDeskSetting, Cond.static yX5_isDeskSetting, Cond.code yX5_isDeskSetting cX5_isDeskSetting 2 (some .boolean), Cond.fieldLink RX5 253 "BranchNotes" "DESK_MOST" "[I", Cond.methodLink RX5 164 yX1_remember, Cond.instanceMethod yX1_remember, Cond.selects RX1 yX1_remember yX1_remember, Cond.initialized RX1, Cond.code yX1_remember cX1_remember 2 none, Cond.fieldLink RX1 16 "BranchNotes$History" "count" "I", Cond.fieldLink RX1 20 "BranchNotes$History" "oldest" "I", Cond.fieldLink RX1 11 "BranchNotes$History" "ring" "[LBranchNotes$State;", Cond.methodLink RX1 23 yX3_copyFrom, Cond.instanceMethod yX3_copyFrom, Cond.selects RX3 yX3_copyFrom yX3_copyFrom, Cond.code yX3_copyFrom cX3_copyFrom 3 none, Cond.methodLink RX3 38 arraycopyName, Cond.native arraycopyName, Cond.static arraycopyName, Cond.initialized "java/lang/System", Cond.fieldLink RX3 24 "BranchNotes$State" "goneAt" "[I", Cond.fieldLink RX3 27 "BranchNotes$State" "takenAt" "[I", Cond.fieldLink RX3 30 "BranchNotes$State" "rightAt" "[I", Cond.fieldLink RX3 48 "BranchNotes$State" "gone" "I"]
def wsL_act_r9 : List Cond := [Cond.fieldLink RX3 52 "BranchNotes$State" "right" "I", Cond.fieldLink RX3 55 "BranchNotes$State" "points" "I", Cond.fieldLink RX3 58 "BranchNotes$State" "series" "I", Cond.fieldLink RX3 61 "BranchNotes$State" "longestSeries" "I", Cond.methodLink RX3 44 yX0_copyFrom, Cond.instanceMethod yX0_copyFrom, Cond.selects RX0 yX0_copyFrom yX0_copyFrom, Cond.code yX0_copyFrom cX0_copyFrom 2 none, Cond.methodLink RX0 30 arraycopyName, Cond.fieldLink RX0 15 "BranchNotes$Desk" "strengths" "[I", Cond.fieldLink RX0 18 "BranchNotes$Desk" "lastPlaces" "[I", Cond.fieldLink RX0 24 "BranchNotes$Desk" "rights" "[I", Cond.fieldLink RX0 36 "BranchNotes$Desk" "clashes" "I", Cond.fieldLink RX0 40 "BranchNotes$Desk" "right" "I", Cond.methodLink RX5 168 yX3_changeDesk, Cond.instanceMethod yX3_changeDesk, Cond.selects RX3 yX3_changeDesk yX3_changeDesk, Cond.code yX3_changeDesk cX3_changeDesk 4 none, Cond.fieldLink RX3 34 "BranchNotes$Desk" "settings" "[I", Cond.methodLink RX3 35 yX3_beginAnew, Cond.instanceMethod yX3_beginAnew, Cond.selects RX3 yX3_beginAnew yX3_beginAnew, Cond.code yX3_beginAnew cX3_beginAnew 2 none, Cond.methodLink RX3 64 yX0_beginAnew]
def wsL_act_r10 : List Cond := [Cond.instanceMethod yX0_beginAnew, Cond.selects RX0 yX0_beginAnew yX0_beginAnew, Cond.code yX0_beginAnew cX0_beginAnew 2 none, Cond.constant RX0 49 (-99999), Cond.methodLink RX0 43 yJ7_fill_53178, Cond.static yJ7_fill_53178, Cond.initialized RJ7, Cond.code yJ7_fill_53178 cJ7_fill_53178 4 none, Cond.methodLink RX3 67 yJ7_fill_53178, Cond.methodLink RL 123 yL_trySet, Cond.static yL_trySet, Cond.codeWith yL_trySet cL_trySet 4 (some .int) [(0, 6, 7, 13)], Cond.methodLink RL 60 yX5_set, Cond.instanceMethod yX5_set, Cond.selects RX5 yX5_set yX5_set, Cond.code yX5_set cX5_set 4 (some .int), Cond.methodLink RX5 172 yX5_isCommonSetting, Cond.static yX5_isCommonSetting, Cond.code yX5_isCommonSetting cX5_isCommonSetting 2 (some .boolean), Cond.fieldLink RX5 256 "BranchNotes" "COMMON_LEAST" "[I", Cond.fieldLink RX5 259 "BranchNotes" "COMMON_MOST" "[I", Cond.methodLink RX5 177 yX3_changeBoth, Cond.instanceMethod yX3_changeBoth, Cond.selects RX3 yX3_changeBoth yX3_changeBoth]
def wsL_act_r11 : List Cond := [Cond.code yX3_changeBoth cX3_changeBoth 3 none, Cond.methodLink RL 126 yL_tryGrow, Cond.static yL_tryGrow, Cond.codeWith yL_tryGrow cL_tryGrow 5 (some .int) [(0, 7, 8, 24), (0, 7, 13, 13)], Cond.methodLink RL 63 yX5_strengthen, Cond.instanceMethod yX5_strengthen, Cond.selects RX5 yX5_strengthen yX5_strengthen, Cond.code yX5_strengthen cX5_strengthen 5 (some .int), Cond.methodLink RX5 184 yX3_isStrength, Cond.instanceMethod yX3_isStrength, Cond.selects RX3 yX3_isStrength yX3_isStrength, Cond.code yX3_isStrength cX3_isStrength 2 (some .boolean), Cond.methodLink RL 129 yL_tryPlay, Cond.static yL_tryPlay, Cond.codeWith yL_tryPlay cL_tryPlay 2 (some .int) [(0, 4, 5, 31)], Cond.methodLink RL 66 yX5_play, Cond.instanceMethod yX5_play, Cond.selects RX5 yX5_play yX5_play, Cond.code yX5_play cX5_play 2 (some .int), Cond.methodLink RX5 193 yX4_isPlayable, Cond.instanceMethod yX4_isPlayable, Cond.selects RX4 yX4_isPlayable yX4_isPlayable, Cond.code yX4_isPlayable cX4_isPlayable 1 (some .boolean), Cond.constant RX4 29 (-99999)]
def wsL_act_r12 : List Cond := [Cond.fieldLink RX4 30 "BranchNotes$Text" "stepCount" "I", Cond.methodLink RX4 25 yX4_read, Cond.instanceMethod yX4_read, Cond.selects RX4 yX4_read yX4_read, Cond.code yX4_read cX4_read 2 (some .int), Cond.fieldLink RX4 33 "BranchNotes$Text" "open" "I", Cond.fieldLink RX4 36 "BranchNotes$Text" "expected" "I", Cond.methodLink RX4 39 yX4_readCharacter, Cond.instanceMethod yX4_readCharacter, Cond.selects RX4 yX4_readCharacter yX4_readCharacter, Cond.code yX4_readCharacter cX4_readCharacter 2 (some .boolean), Cond.methodLink RX4 43 yX4_readSign, Cond.instanceMethod yX4_readSign, Cond.selects RX4 yX4_readSign yX4_readSign, Cond.code yX4_readSign cX4_readSign 2 (some .boolean), Cond.fieldLink RX4 15 "BranchNotes$Text" "steps" "[I", Cond.fieldLink RX4 52 "BranchNotes$Text" "letter" "I", Cond.methodLink RX4 46 yX4_readDigit, Cond.instanceMethod yX4_readDigit, Cond.selects RX4 yX4_readDigit yX4_readDigit, Cond.code yX4_readDigit cX4_readDigit 2 (some .boolean), Cond.fieldLink RX4 18 "BranchNotes$Text" "starts" "[I", Cond.methodLink RX4 55 yX4_repeatFrom, Cond.instanceMethod yX4_repeatFrom]
def wsL_act_r13 : List Cond := [Cond.selects RX4 yX4_repeatFrom yX4_repeatFrom, Cond.code yX4_repeatFrom cX4_repeatFrom 6 none, Cond.methodLink RX4 49 yX4_readItem, Cond.instanceMethod yX4_readItem, Cond.selects RX4 yX4_readItem yX4_readItem, Cond.code yX4_readItem cX4_readItem 2 (some .boolean), Cond.methodLink RX5 199 yX3_goAll, Cond.instanceMethod yX3_goAll, Cond.selects RX3 yX3_goAll yX3_goAll, Cond.code yX3_goAll cX3_goAll 4 none, Cond.fieldLink RX3 103 "BranchNotes$Text" "stepCount" "I", Cond.fieldLink RX3 108 "BranchNotes$Text" "steps" "[I", Cond.methodLink RX3 111 yX3_go, Cond.instanceMethod yX3_go, Cond.selects RX3 yX3_go yX3_go, Cond.code yX3_go cX3_go 7 (some .boolean), Cond.methodLink RX3 87 yX3_countGuess, Cond.instanceMethod yX3_countGuess, Cond.selects RX3 yX3_countGuess yX3_countGuess, Cond.code yX3_countGuess cX3_countGuess 4 none, Cond.methodLink RX3 115 Lib.Math.max.name, Cond.static Lib.Math.max.name, Cond.initialized "java/lang/Math", Cond.code Lib.Math.max.name Lib.Math.max.code 2 (some .int)]
def wsL_act_r14 : List Cond := [Cond.methodLink RX3 91 yX3_moveChooser, Cond.instanceMethod yX3_moveChooser, Cond.selects RX3 yX3_moveChooser yX3_moveChooser, Cond.code yX3_moveChooser cX3_moveChooser 3 none, Cond.methodLink RX3 120 Lib.Math.min.name, Cond.static Lib.Math.min.name, Cond.code Lib.Math.min.name Lib.Math.min.code 2 (some .int), Cond.methodLink RX3 95 yX3_noteFor, Cond.methodLink RX3 96 yX0_use, Cond.instanceMethod yX0_use, Cond.selects RX0 yX0_use yX0_use, Cond.code yX0_use cX0_use 5 none, Cond.methodLink RX0 54 Lib.Math.min.name, Cond.methodLink RX0 60 Lib.Math.max.name, Cond.methodLink RX3 100 yX0_changePath, Cond.instanceMethod yX0_changePath, Cond.selects RX0 yX0_changePath yX0_changePath, Cond.code yX0_changePath cX0_changePath 4 none, Cond.methodLink RL 133 yL_tryUndo, Cond.static yL_tryUndo, Cond.codeWith yL_tryUndo cL_tryUndo 2 (some .int) [(0, 4, 5, 31)], Cond.methodLink RL 70 yX5_undo, Cond.instanceMethod yX5_undo, Cond.selects RX5 yX5_undo yX5_undo]
def wsL_act_r15 : List Cond := [Cond.code yX5_undo cX5_undo 1 (some .int), Cond.fieldLink RX5 209 "BranchNotes$History" "count" "I", Cond.methodLink RX5 203 yX1_takeBack, Cond.instanceMethod yX1_takeBack, Cond.selects RX1 yX1_takeBack yX1_takeBack, Cond.code yX1_takeBack cX1_takeBack 2 (some .boolean), Cond.methodLink RL 136 yL_tryMixing, Cond.static yL_tryMixing, Cond.codeWith yL_tryMixing cL_tryMixing 3 (some .int) [(0, 5, 6, 24)], Cond.methodLink RL 73 yX5_bestMixing, Cond.instanceMethod yX5_bestMixing, Cond.selects RX5 yX5_bestMixing yX5_bestMixing, Cond.code yX5_bestMixing cX5_bestMixing 2 (some .int), Cond.methodLink RX5 215 yX5_bestSetting, Cond.instanceMethod yX5_bestSetting, Cond.selects RX5 yX5_bestSetting yX5_bestSetting, Cond.code yX5_bestSetting cX5_bestSetting 6 (some .int), Cond.fieldLink RX5 23 "BranchNotes" "trial" "LBranchNotes$State;", Cond.methodLink RX5 212 yX3_copyFrom, Cond.methodLink RL 139 yL_tryLength, Cond.static yL_tryLength, Cond.codeWith yL_tryLength cL_tryLength 3 (some .int) [(0, 5, 6, 24)], Cond.methodLink RL 76 yX5_bestLength, Cond.instanceMethod yX5_bestLength]
def wsL_act_r16 : List Cond := [Cond.selects RX5 yX5_bestLength yX5_bestLength, Cond.code yX5_bestLength cX5_bestLength 2 (some .int), Cond.methodLink RL 142 yL_trySharing, Cond.static yL_trySharing, Cond.codeWith yL_trySharing cL_trySharing 4 (some .int) [(0, 6, 7, 24)], Cond.methodLink RL 79 yX5_sharing, Cond.instanceMethod yX5_sharing, Cond.selects RX5 yX5_sharing yX5_sharing, Cond.code yX5_sharing cX5_sharing 6 (some .int), Cond.methodLink RL 145 yL_tryHolds, Cond.static yL_tryHolds, Cond.codeWith yL_tryHolds cL_tryHolds 3 (some .int) [(0, 5, 6, 24)], Cond.methodLink RL 82 yX5_holds, Cond.instanceMethod yX5_holds, Cond.selects RX5 yX5_holds yX5_holds, Cond.code yX5_holds cX5_holds 4 (some .int), Cond.methodLink RX5 189 yX3_go, Cond.methodLink RL 148 yL_tryKeep, Cond.static yL_tryKeep, Cond.codeWith yL_tryKeep cL_tryKeep 3 (some .int) [(0, 5, 6, 24)], Cond.methodLink RL 85 yX5_save, Cond.instanceMethod yX5_save, Cond.selects RX5 yX5_save yX5_save, Cond.code yX5_save cX5_save 2 (some .int)]
def wsL_act_r17 : List Cond := [Cond.fieldLink RX5 33 "BranchNotes" "slots" "[LBranchNotes$State;", Cond.fieldLink RX5 37 "BranchNotes" "saved" "[Z", Cond.methodLink RX5 248 yX5_checkSlot, Cond.static yX5_checkSlot, Cond.code yX5_checkSlot cX5_checkSlot 1 none, Cond.methodLink RL 151 yL_tryBack, Cond.static yL_tryBack, Cond.codeWith yL_tryBack cL_tryBack 3 (some .int) [(0, 5, 6, 24), (0, 5, 10, 31)], Cond.methodLink RL 88 yX5_restore, Cond.instanceMethod yX5_restore, Cond.selects RX5 yX5_restore yX5_restore, Cond.code yX5_restore cX5_restore 2 (some .int), Cond.methodLink RL 190 yX5_clearText, Cond.instanceMethod yX5_clearText, Cond.selects RX5 yX5_clearText yX5_clearText, Cond.code yX5_clearText cX5_clearText 2 (some .int), Cond.methodLink RL 160 yL_tryGo, Cond.static yL_tryGo, Cond.codeWith yL_tryGo cL_tryGo 4 (some .int) [(0, 14, 15, 24)], Cond.methodLink RL 20 yX5_branch, Cond.instanceMethod yX5_branch, Cond.selects RX5 yX5_branch yX5_branch, Cond.code yX5_branch cX5_branch 3 (some .boolean)]
def wsL_act : List Cond := .code yL_act cL_act 7 (some .int) :: ((wsL_act_r1 ++ (wsL_act_r2 ++ (wsL_act_r3 ++ (wsL_act_r4 ++ (wsL_act_r5 ++ (wsL_act_r6 ++ (wsL_act_r7 ++ (wsL_act_r8 ++ (wsL_act_r9 ++ (wsL_act_r10 ++ (wsL_act_r11 ++ (wsL_act_r12 ++ (wsL_act_r13 ++ (wsL_act_r14 ++ (wsL_act_r15 ++ (wsL_act_r16 ++ wsL_act_r17)))))))))))))))) ++ wsX50 ++ wsX40 ++ wsX30 ++ wsX00 ++ wsX10 ++ (vx_atS RX5 45 "java/lang/IllegalArgumentException" ["java/lang/RuntimeException", "java/lang/Exception"]).filter goodWord ++ (vx_atS RX5 56 "java/lang/IllegalStateException" ["java/lang/RuntimeException", "java/lang/Exception"]).filter goodWord ++ (vx_atS RX5 269 "java/lang/IndexOutOfBoundsException" ["java/lang/RuntimeException", "java/lang/Exception"]).filter goodWord)
def wsL_law0_r1 : List Cond := [Cond.classLink RL 8 RX5, Cond.instantiable RX5 6, Cond.initialized RX5, Cond.constantLong RL 211 (3434264695), Cond.constantLong RL 213 (821), Cond.constantLong RL 215 (4), Cond.methodLink RL 193 yX5_init, Cond.instanceMethod yX5_init, Cond.code yX5_init cX5_init 2 none, Cond.methodLink RX5 1 objectInit, Cond.instanceMethod objectInit, Cond.code objectInit ⟨#[0xb1]⟩ 1 none, Cond.classLink RX5 7 RX4, Cond.instantiable RX4 8, Cond.initialized RX4, Cond.fieldLink RX5 10 "BranchNotes" "text" "LBranchNotes$Text;", Cond.classLink RX5 16 RX3, Cond.instantiable RX3 11, Cond.initialized RX3, Cond.fieldLink RX5 19 "BranchNotes" "state" "LBranchNotes$State;", Cond.fieldLink RX5 23 "BranchNotes" "trial" "LBranchNotes$State;", Cond.classLink RX5 26 RX1, Cond.instantiable RX1 3, Cond.initialized RX1]
def wsL_law0_r2 : List Cond := [Cond.fieldLink RX5 29 "BranchNotes" "history" "LBranchNotes$History;", Cond.fieldLink RX5 33 "BranchNotes" "slots" "[LBranchNotes$State;", Cond.arrayClass .boolean, Cond.fieldLink RX5 37 "BranchNotes" "saved" "[Z", Cond.instanceMethod yX4_init, Cond.code yX4_init cX4_init 1 none, Cond.methodLink RX4 3 objectInit, Cond.arrayClass .int, Cond.fieldLink RX4 11 "BranchNotes$Text" "codes" "[I", Cond.fieldLink RX4 15 "BranchNotes$Text" "steps" "[I", Cond.fieldLink RX4 18 "BranchNotes$Text" "starts" "[I", Cond.methodLink RX5 18 yX3_init, Cond.instanceMethod yX3_init, Cond.code yX3_init cX3_init 2 none, Cond.methodLink RX3 3 objectInit, Cond.fieldLink RX3 9 "BranchNotes$State" "settings" "[I", Cond.classLink RX3 15 RX0, Cond.fieldLink RX3 17 "BranchNotes$State" "desks" "[LBranchNotes$Desk;", Cond.fieldLink RX3 21 "BranchNotes$State" "choosers" "[I", Cond.fieldLink RX3 24 "BranchNotes$State" "goneAt" "[I", Cond.fieldLink RX3 27 "BranchNotes$State" "takenAt" "[I", Cond.fieldLink RX3 30 "BranchNotes$State" "rightAt" "[I", Cond.instantiable RX0 8, Cond.initialized RX0]
def wsL_law0_r3 : List Cond := [Cond.fieldLink RX3 34 "BranchNotes$Desk" "settings" "[I", Cond.instanceMethod yX0_init, Cond.code yX0_init cX0_init 1 none, Cond.methodLink RX0 3 objectInit, Cond.fieldLink RX0 9 "BranchNotes$Desk" "settings" "[I", Cond.fieldLink RX0 15 "BranchNotes$Desk" "strengths" "[I", Cond.fieldLink RX0 18 "BranchNotes$Desk" "lastPlaces" "[I", Cond.fieldLink RX0 21 "BranchNotes$Desk" "uses" "[I", Cond.fieldLink RX0 24 "BranchNotes$Desk" "rights" "[I", Cond.fieldLink RX0 27 "BranchNotes$Desk" "paths" "[I", Cond.methodLink RX3 35 yX3_beginAnew, Cond.instanceMethod yX3_beginAnew, Cond.selects RX3 yX3_beginAnew yX3_beginAnew, Cond.code yX3_beginAnew cX3_beginAnew 2 none, Cond.fieldLink RX3 48 "BranchNotes$State" "gone" "I", Cond.fieldLink RX3 52 "BranchNotes$State" "right" "I", Cond.fieldLink RX3 55 "BranchNotes$State" "points" "I", Cond.fieldLink RX3 58 "BranchNotes$State" "series" "I", Cond.fieldLink RX3 61 "BranchNotes$State" "longestSeries" "I", Cond.methodLink RX3 64 yX0_beginAnew, Cond.instanceMethod yX0_beginAnew, Cond.selects RX0 yX0_beginAnew yX0_beginAnew, Cond.code yX0_beginAnew cX0_beginAnew 2 none, Cond.constant RX0 49 (-99999)]
def wsL_law0_r4 : List Cond := [Cond.fieldLink RX0 36 "BranchNotes$Desk" "clashes" "I", Cond.fieldLink RX0 40 "BranchNotes$Desk" "right" "I", Cond.methodLink RX0 43 yJ7_fill_53178, Cond.static yJ7_fill_53178, Cond.initialized RJ7, Cond.code yJ7_fill_53178 cJ7_fill_53178 4 none, Cond.methodLink RX3 67 yJ7_fill_53178, Cond.methodLink RX5 28 yX1_init, Cond.instanceMethod yX1_init, Cond.code yX1_init cX1_init 2 none, Cond.methodLink RX1 1 objectInit, Cond.classLink RX1 9 RX3, Cond.fieldLink RX1 11 "BranchNotes$History" "ring" "[LBranchNotes$State;", Cond.methodLink RX1 15 yX3_init, Cond.methodLink RL 194 yL_cell, Cond.static yL_cell, Cond.initialized RL, Cond.code yL_cell cL_cell 2 (some .int), Cond.constant RL 154 (15518147), Cond.constant RL 155 (2147483647), Cond.methodLink RL 198 yL_refuses, Cond.static yL_refuses, Cond.code yL_refuses cL_refuses 5 (some .boolean), Cond.constant RL 15 (-9999002)]
def wsL_law0_r5 : List Cond := [Cond.constant RL 26 (-9999001), Cond.constantLong RL 172 (100000), Cond.constantLong RL 174 (-1), Cond.methodLink RL 156 yL_call, Cond.static yL_call, Cond.code yL_call cL_call 5 (some .int), Cond.methodLink RL 91 yL_tryAppend, Cond.static yL_tryAppend, Cond.codeWith yL_tryAppend cL_tryAppend 3 (some .int) [(0, 5, 6, 13), (0, 5, 10, 31)], Cond.classLink RL 13 "java/lang/IllegalArgumentException", Cond.classLink RL 31 "java/lang/IllegalStateException", Cond.constant RL 33 (-9999003), Cond.methodLink RL 27 yX5_append, Cond.instanceMethod yX5_append, Cond.selects RX5 yX5_append yX5_append, Cond.code yX5_append cX5_append 2 (some .int), Cond.classLink RX5 41 "java/lang/IllegalArgumentException", Cond.initialized "java/lang/IllegalArgumentException", Cond.classLink RX5 52 "java/lang/IllegalStateException", Cond.initialized "java/lang/IllegalStateException", Cond.fieldLink RX5 57 "BranchNotes$Text" "length" "I", Cond.methodLink RX5 48 yX4_add, Cond.instanceMethod yX4_add, Cond.selects RX4 yX4_add yX4_add]
def wsL_law0_r6 : List Cond := [Cond.code yX4_add cX4_add 2 (some .boolean), Cond.fieldLink RX4 21 "BranchNotes$Text" "length" "I", Cond.methodLink RL 97 yL_tryAbout, Cond.static yL_tryAbout, Cond.codeWith yL_tryAbout cL_tryAbout 3 (some .int) [(0, 5, 6, 13)], Cond.methodLink RL 34 yX5_about, Cond.instanceMethod yX5_about, Cond.selects RX5 yX5_about yX5_about, Cond.code yX5_about cX5_about 2 (some .int), Cond.fieldLink RX5 69 "BranchNotes$State" "gone" "I", Cond.fieldLink RX5 72 "BranchNotes$State" "right" "I", Cond.fieldLink RX5 75 "BranchNotes$State" "points" "I", Cond.fieldLink RX5 78 "BranchNotes$State" "desks" "[LBranchNotes$Desk;", Cond.fieldLink RX5 82 "BranchNotes$Desk" "clashes" "I", Cond.fieldLink RX5 87 "BranchNotes$State" "series" "I", Cond.fieldLink RX5 90 "BranchNotes$State" "longestSeries" "I", Cond.fieldLink RX5 93 "BranchNotes$State" "settings" "[I", Cond.methodLink RL 100 yL_tryDesk, Cond.static yL_tryDesk, Cond.codeWith yL_tryDesk cL_tryDesk 4 (some .int) [(0, 6, 7, 24), (0, 6, 11, 13)], Cond.classLink RL 24 "java/lang/IndexOutOfBoundsException", Cond.methodLink RL 37 yX5_desk, Cond.instanceMethod yX5_desk, Cond.selects RX5 yX5_desk yX5_desk]
def wsL_law0_r7 : List Cond := [Cond.code yX5_desk cX5_desk 4 (some .int), Cond.fieldLink RX5 103 "BranchNotes$Desk" "settings" "[I", Cond.fieldLink RX5 104 "BranchNotes$Desk" "right" "I", Cond.methodLink RX5 99 yX5_checkDesk, Cond.static yX5_checkDesk, Cond.code yX5_checkDesk cX5_checkDesk 1 none, Cond.classLink RX5 265 "java/lang/IndexOutOfBoundsException", Cond.initialized "java/lang/IndexOutOfBoundsException", Cond.methodLink RX5 262 yX5_isDesk, Cond.static yX5_isDesk, Cond.code yX5_isDesk cX5_isDesk 1 (some .boolean), Cond.methodLink RX5 105 yX0_countUsed, Cond.instanceMethod yX0_countUsed, Cond.selects RX0 yX0_countUsed yX0_countUsed, Cond.code yX0_countUsed cX0_countUsed 3 (some .int), Cond.methodLink RL 104 yL_tryNote, Cond.static yL_tryNote, Cond.codeWith yL_tryNote cL_tryNote 5 (some .int) [(0, 7, 8, 24), (0, 7, 13, 13)], Cond.methodLink RL 41 yX5_note, Cond.instanceMethod yX5_note, Cond.selects RX5 yX5_note yX5_note, Cond.code yX5_note cX5_note 5 (some .int), Cond.fieldLink RX5 113 "BranchNotes$Desk" "strengths" "[I", Cond.fieldLink RX5 116 "BranchNotes$Desk" "lastPlaces" "[I"]
def wsL_law0_r8 : List Cond := [Cond.fieldLink RX5 119 "BranchNotes$Desk" "uses" "[I", Cond.fieldLink RX5 122 "BranchNotes$Desk" "rights" "[I", Cond.methodLink RX5 110 yX5_checkNote, Cond.instanceMethod yX5_checkNote, Cond.selects RX5 yX5_checkNote yX5_checkNote, Cond.code yX5_checkNote cX5_checkNote 2 none, Cond.methodLink RX5 277 yX3_isNote, Cond.instanceMethod yX3_isNote, Cond.selects RX3 yX3_isNote yX3_isNote, Cond.code yX3_isNote cX3_isNote 2 (some .boolean), Cond.methodLink RL 108 yL_tryPlace, Cond.static yL_tryPlace, Cond.codeWith yL_tryPlace cL_tryPlace 4 (some .int) [(0, 6, 7, 24), (0, 6, 11, 13)], Cond.methodLink RL 45 yX5_place, Cond.instanceMethod yX5_place, Cond.selects RX5 yX5_place yX5_place, Cond.code yX5_place cX5_place 3 (some .int), Cond.fieldLink RX5 130 "BranchNotes$State" "goneAt" "[I", Cond.fieldLink RX5 133 "BranchNotes$State" "takenAt" "[I", Cond.fieldLink RX5 136 "BranchNotes$State" "rightAt" "[I", Cond.fieldLink RX5 139 "BranchNotes$State" "choosers" "[I", Cond.methodLink RX5 127 yX5_checkPlace, Cond.static yX5_checkPlace, Cond.code yX5_checkPlace cX5_checkPlace 1 none]
def wsL_law0_r9 : List Cond := [Cond.methodLink RX5 270 yX5_isPlace, Cond.static yX5_isPlace, Cond.code yX5_isPlace cX5_isPlace 1 (some .boolean), Cond.methodLink RX5 142 yX3_guessFor, Cond.instanceMethod yX3_guessFor, Cond.selects RX3 yX3_guessFor yX3_guessFor, Cond.code yX3_guessFor cX3_guessFor 2 (some .boolean), Cond.methodLink RX3 83 yX3_deskSays, Cond.instanceMethod yX3_deskSays, Cond.selects RX3 yX3_deskSays yX3_deskSays, Cond.code yX3_deskSays cX3_deskSays 4 (some .boolean), Cond.fieldLink RX3 80 "BranchNotes$Desk" "strengths" "[I", Cond.methodLink RX3 76 yX0_noteFor, Cond.instanceMethod yX0_noteFor, Cond.selects RX0 yX0_noteFor yX0_noteFor, Cond.code yX0_noteFor cX0_noteFor 5 (some .int), Cond.methodLink RX0 50 yX0_pathFor, Cond.instanceMethod yX0_pathFor, Cond.selects RX0 yX0_pathFor yX0_pathFor, Cond.code yX0_pathFor cX0_pathFor 2 (some .int), Cond.methodLink RL 111 yL_tryPath, Cond.static yL_tryPath, Cond.codeWith yL_tryPath cL_tryPath 4 (some .int) [(0, 6, 7, 24)], Cond.methodLink RL 48 yX5_path]
def wsL_law0_r10 : List Cond := [Cond.instanceMethod yX5_path, Cond.selects RX5 yX5_path yX5_path, Cond.code yX5_path cX5_path 3 (some .int), Cond.methodLink RX5 147 yX0_pathFor, Cond.methodLink RL 114 yL_tryNumber, Cond.static yL_tryNumber, Cond.codeWith yL_tryNumber cL_tryNumber 4 (some .int) [(0, 6, 7, 24)], Cond.methodLink RL 51 yX5_noteOf, Cond.instanceMethod yX5_noteOf, Cond.selects RX5 yX5_noteOf yX5_noteOf, Cond.code yX5_noteOf cX5_noteOf 3 (some .int), Cond.methodLink RX5 151 yX3_noteFor, Cond.instanceMethod yX3_noteFor, Cond.selects RX3 yX3_noteFor yX3_noteFor, Cond.code yX3_noteFor cX3_noteFor 3 (some .int), Cond.methodLink RL 117 yL_tryShare, Cond.static yL_tryShare, Cond.codeWith yL_tryShare cL_tryShare 3 (some .int) [(0, 5, 6, 24)], Cond.methodLink RL 54 yX5_share, Cond.instanceMethod yX5_share, Cond.selects RX5 yX5_share yX5_share, Cond.code yX5_share cX5_share 3 (some .int), Cond.constant RX5 65 (-99999), Cond.methodLink RX5 155 yX5_quotientBits]
def wsL_law0_r11 : List Cond := [Cond.static yX5_quotientBits, Cond.code yX5_quotientBits cX5_quotientBits 7 (some .int), Cond.constantLong RX5 282 (2), Cond.methodLink RL 120 yL_tryTune, Cond.static yL_tryTune, Cond.codeWith yL_tryTune cL_tryTune 5 (some .int) [(0, 7, 8, 24), (0, 7, 13, 13)], Cond.methodLink RL 57 yX5_setDesk, Cond.instanceMethod yX5_setDesk, Cond.selects RX5 yX5_setDesk yX5_setDesk, Cond.code yX5_setDesk cX5_setDesk 5 (some .int), Cond.methodLink RX5 158 yX5_isDeskSetting, Cond.static yX5_isDeskSetting, Cond.code yX5_isDeskSetting cX5_isDeskSetting 2 (some .boolean), Cond.fieldLink RX5 253 "BranchNotes" "DESK_MOST" "[I", Cond.methodLink RX5 164 yX1_remember, Cond.instanceMethod yX1_remember, Cond.selects RX1 yX1_remember yX1_remember, Cond.code yX1_remember cX1_remember 2 none, Cond.fieldLink RX1 16 "BranchNotes$History" "count" "I", Cond.fieldLink RX1 20 "BranchNotes$History" "oldest" "I", Cond.methodLink RX1 23 yX3_copyFrom, Cond.instanceMethod yX3_copyFrom, Cond.selects RX3 yX3_copyFrom yX3_copyFrom, Cond.code yX3_copyFrom cX3_copyFrom 3 none]
def wsL_law0_r12 : List Cond := [Cond.methodLink RX3 38 arraycopyName, Cond.native arraycopyName, Cond.static arraycopyName, Cond.initialized "java/lang/System", Cond.methodLink RX3 44 yX0_copyFrom, Cond.instanceMethod yX0_copyFrom, Cond.selects RX0 yX0_copyFrom yX0_copyFrom, Cond.code yX0_copyFrom cX0_copyFrom 2 none, Cond.methodLink RX0 30 arraycopyName, Cond.methodLink RX5 168 yX3_changeDesk, Cond.instanceMethod yX3_changeDesk, Cond.selects RX3 yX3_changeDesk yX3_changeDesk, Cond.code yX3_changeDesk cX3_changeDesk 4 none, Cond.methodLink RL 123 yL_trySet, Cond.static yL_trySet, Cond.codeWith yL_trySet cL_trySet 4 (some .int) [(0, 6, 7, 13)], Cond.methodLink RL 60 yX5_set, Cond.instanceMethod yX5_set, Cond.selects RX5 yX5_set yX5_set, Cond.code yX5_set cX5_set 4 (some .int), Cond.methodLink RX5 172 yX5_isCommonSetting, Cond.static yX5_isCommonSetting, Cond.code yX5_isCommonSetting cX5_isCommonSetting 2 (some .boolean), Cond.fieldLink RX5 256 "BranchNotes" "COMMON_LEAST" "[I"]
def wsL_law0_r13 : List Cond := [Cond.fieldLink RX5 259 "BranchNotes" "COMMON_MOST" "[I", Cond.methodLink RX5 177 yX3_changeBoth, Cond.instanceMethod yX3_changeBoth, Cond.selects RX3 yX3_changeBoth yX3_changeBoth, Cond.code yX3_changeBoth cX3_changeBoth 3 none, Cond.methodLink RL 126 yL_tryGrow, Cond.static yL_tryGrow, Cond.codeWith yL_tryGrow cL_tryGrow 5 (some .int) [(0, 7, 8, 24), (0, 7, 13, 13)], Cond.methodLink RL 63 yX5_strengthen, Cond.instanceMethod yX5_strengthen, Cond.selects RX5 yX5_strengthen yX5_strengthen, Cond.code yX5_strengthen cX5_strengthen 5 (some .int), Cond.methodLink RX5 184 yX3_isStrength, Cond.instanceMethod yX3_isStrength, Cond.selects RX3 yX3_isStrength yX3_isStrength, Cond.code yX3_isStrength cX3_isStrength 2 (some .boolean), Cond.methodLink RL 129 yL_tryPlay, Cond.static yL_tryPlay, Cond.codeWith yL_tryPlay cL_tryPlay 2 (some .int) [(0, 4, 5, 31)], Cond.methodLink RL 66 yX5_play, Cond.instanceMethod yX5_play, Cond.selects RX5 yX5_play yX5_play, Cond.code yX5_play cX5_play 2 (some .int), Cond.methodLink RX5 193 yX4_isPlayable]
def wsL_law0_r14 : List Cond := [Cond.instanceMethod yX4_isPlayable, Cond.selects RX4 yX4_isPlayable yX4_isPlayable, Cond.code yX4_isPlayable cX4_isPlayable 1 (some .boolean), Cond.constant RX4 29 (-99999), Cond.fieldLink RX4 30 "BranchNotes$Text" "stepCount" "I", Cond.methodLink RX4 25 yX4_read, Cond.instanceMethod yX4_read, Cond.selects RX4 yX4_read yX4_read, Cond.code yX4_read cX4_read 2 (some .int), Cond.fieldLink RX4 33 "BranchNotes$Text" "open" "I", Cond.fieldLink RX4 36 "BranchNotes$Text" "expected" "I", Cond.methodLink RX4 39 yX4_readCharacter, Cond.instanceMethod yX4_readCharacter, Cond.selects RX4 yX4_readCharacter yX4_readCharacter, Cond.code yX4_readCharacter cX4_readCharacter 2 (some .boolean), Cond.methodLink RX4 43 yX4_readSign, Cond.instanceMethod yX4_readSign, Cond.selects RX4 yX4_readSign yX4_readSign, Cond.code yX4_readSign cX4_readSign 2 (some .boolean), Cond.fieldLink RX4 52 "BranchNotes$Text" "letter" "I", Cond.methodLink RX4 46 yX4_readDigit, Cond.instanceMethod yX4_readDigit, Cond.selects RX4 yX4_readDigit yX4_readDigit, Cond.code yX4_readDigit cX4_readDigit 2 (some .boolean)]
def wsL_law0_r15 : List Cond := [Cond.methodLink RX4 55 yX4_repeatFrom, Cond.instanceMethod yX4_repeatFrom, Cond.selects RX4 yX4_repeatFrom yX4_repeatFrom, Cond.code yX4_repeatFrom cX4_repeatFrom 6 none, Cond.methodLink RX4 49 yX4_readItem, Cond.instanceMethod yX4_readItem, Cond.selects RX4 yX4_readItem yX4_readItem, Cond.code yX4_readItem cX4_readItem 2 (some .boolean), Cond.methodLink RX5 199 yX3_goAll, Cond.instanceMethod yX3_goAll, Cond.selects RX3 yX3_goAll yX3_goAll, Cond.code yX3_goAll cX3_goAll 4 none, Cond.fieldLink RX3 103 "BranchNotes$Text" "stepCount" "I", Cond.fieldLink RX3 108 "BranchNotes$Text" "steps" "[I", Cond.methodLink RX3 111 yX3_go, Cond.instanceMethod yX3_go, Cond.selects RX3 yX3_go yX3_go, Cond.code yX3_go cX3_go 7 (some .boolean), Cond.methodLink RX3 87 yX3_countGuess, Cond.instanceMethod yX3_countGuess, Cond.selects RX3 yX3_countGuess yX3_countGuess, Cond.code yX3_countGuess cX3_countGuess 4 none, Cond.methodLink RX3 115 Lib.Math.max.name, Cond.static Lib.Math.max.name]
def wsL_law0_r16 : List Cond := [Cond.initialized "java/lang/Math", Cond.code Lib.Math.max.name Lib.Math.max.code 2 (some .int), Cond.methodLink RX3 91 yX3_moveChooser, Cond.instanceMethod yX3_moveChooser, Cond.selects RX3 yX3_moveChooser yX3_moveChooser, Cond.code yX3_moveChooser cX3_moveChooser 3 none, Cond.methodLink RX3 120 Lib.Math.min.name, Cond.static Lib.Math.min.name, Cond.code Lib.Math.min.name Lib.Math.min.code 2 (some .int), Cond.methodLink RX3 95 yX3_noteFor, Cond.methodLink RX3 96 yX0_use, Cond.instanceMethod yX0_use, Cond.selects RX0 yX0_use yX0_use, Cond.code yX0_use cX0_use 5 none, Cond.methodLink RX0 54 Lib.Math.min.name, Cond.methodLink RX0 60 Lib.Math.max.name, Cond.methodLink RX3 100 yX0_changePath, Cond.instanceMethod yX0_changePath, Cond.selects RX0 yX0_changePath yX0_changePath, Cond.code yX0_changePath cX0_changePath 4 none, Cond.methodLink RL 133 yL_tryUndo, Cond.static yL_tryUndo, Cond.codeWith yL_tryUndo cL_tryUndo 2 (some .int) [(0, 4, 5, 31)], Cond.methodLink RL 70 yX5_undo]
def wsL_law0_r17 : List Cond := [Cond.instanceMethod yX5_undo, Cond.selects RX5 yX5_undo yX5_undo, Cond.code yX5_undo cX5_undo 1 (some .int), Cond.fieldLink RX5 209 "BranchNotes$History" "count" "I", Cond.methodLink RX5 203 yX1_takeBack, Cond.instanceMethod yX1_takeBack, Cond.selects RX1 yX1_takeBack yX1_takeBack, Cond.code yX1_takeBack cX1_takeBack 2 (some .boolean), Cond.methodLink RL 136 yL_tryMixing, Cond.static yL_tryMixing, Cond.codeWith yL_tryMixing cL_tryMixing 3 (some .int) [(0, 5, 6, 24)], Cond.methodLink RL 73 yX5_bestMixing, Cond.instanceMethod yX5_bestMixing, Cond.selects RX5 yX5_bestMixing yX5_bestMixing, Cond.code yX5_bestMixing cX5_bestMixing 2 (some .int), Cond.methodLink RX5 215 yX5_bestSetting, Cond.instanceMethod yX5_bestSetting, Cond.selects RX5 yX5_bestSetting yX5_bestSetting, Cond.code yX5_bestSetting cX5_bestSetting 6 (some .int), Cond.methodLink RX5 212 yX3_copyFrom, Cond.methodLink RL 139 yL_tryLength, Cond.static yL_tryLength, Cond.codeWith yL_tryLength cL_tryLength 3 (some .int) [(0, 5, 6, 24)], Cond.methodLink RL 76 yX5_bestLength]
def wsL_law0_r18 : List Cond := [Cond.instanceMethod yX5_bestLength, Cond.selects RX5 yX5_bestLength yX5_bestLength, Cond.code yX5_bestLength cX5_bestLength 2 (some .int), Cond.methodLink RL 142 yL_trySharing, Cond.static yL_trySharing, Cond.codeWith yL_trySharing cL_trySharing 4 (some .int) [(0, 6, 7, 24)], Cond.methodLink RL 79 yX5_sharing, Cond.instanceMethod yX5_sharing, Cond.selects RX5 yX5_sharing yX5_sharing, Cond.code yX5_sharing cX5_sharing 6 (some .int), Cond.methodLink RL 145 yL_tryHolds, Cond.static yL_tryHolds, Cond.codeWith yL_tryHolds cL_tryHolds 3 (some .int) [(0, 5, 6, 24)], Cond.methodLink RL 82 yX5_holds, Cond.instanceMethod yX5_holds, Cond.selects RX5 yX5_holds yX5_holds, Cond.code yX5_holds cX5_holds 4 (some .int), Cond.methodLink RX5 189 yX3_go, Cond.methodLink RL 148 yL_tryKeep, Cond.static yL_tryKeep, Cond.codeWith yL_tryKeep cL_tryKeep 3 (some .int) [(0, 5, 6, 24)], Cond.methodLink RL 85 yX5_save, Cond.instanceMethod yX5_save, Cond.selects RX5 yX5_save yX5_save]
def wsL_law0_r19 : List Cond := [Cond.code yX5_save cX5_save 2 (some .int), Cond.methodLink RX5 248 yX5_checkSlot, Cond.static yX5_checkSlot, Cond.code yX5_checkSlot cX5_checkSlot 1 none, Cond.methodLink RL 151 yL_tryBack, Cond.static yL_tryBack, Cond.codeWith yL_tryBack cL_tryBack 3 (some .int) [(0, 5, 6, 24), (0, 5, 10, 31)], Cond.methodLink RL 88 yX5_restore, Cond.instanceMethod yX5_restore, Cond.selects RX5 yX5_restore yX5_restore, Cond.code yX5_restore cX5_restore 2 (some .int), Cond.methodLink RL 160 yL_tryGo, Cond.static yL_tryGo, Cond.codeWith yL_tryGo cL_tryGo 4 (some .int) [(0, 14, 15, 24)], Cond.methodLink RL 20 yX5_branch, Cond.instanceMethod yX5_branch, Cond.selects RX5 yX5_branch yX5_branch, Cond.code yX5_branch cX5_branch 3 (some .boolean), Cond.methodLink RL 164 yL_trySimulate, Cond.static yL_trySimulate, Cond.codeWith yL_trySimulate cL_trySimulate 5 (some .int) [(0, 6, 7, 13)], Cond.methodLink RL 16 yX5_simulate, Cond.instanceMethod yX5_simulate, Cond.selects RX5 yX5_simulate yX5_simulate]
def wsL_law0_r20 : List Cond := [Cond.code yX5_simulate cX5_simulate 10 (some .int), Cond.constantLong RX5 236 (6364136223846793005), Cond.constantLong RX5 238 (1442695040888963407), Cond.methodLink RX5 243 Lib.Math.min.name, Cond.methodLink RX5 240 yX3_allClashes, Cond.instanceMethod yX3_allClashes, Cond.selects RX3 yX3_allClashes yX3_allClashes, Cond.code yX3_allClashes cX3_allClashes 1 (some .int), Cond.fieldLink RX3 73 "BranchNotes$Desk" "clashes" "I", Cond.methodLink RL 168 yL_tryScript, Cond.static yL_tryScript, Cond.codeWith yL_tryScript cL_tryScript 5 (some .int) [(0, 6, 7, 13)], Cond.methodLink RL 7 yX5_runScript, Cond.instanceMethod yX5_runScript, Cond.selects RX5 yX5_runScript yX5_runScript, Cond.code yX5_runScript cX5_runScript 5 (some .int), Cond.constantLong RX5 226 (100000), Cond.methodLink RX5 220 yX5_withoutLastGroups, Cond.static yX5_withoutLastGroups, Cond.code yX5_withoutLastGroups cX5_withoutLastGroups 6 (some .long), Cond.methodLink RX5 228 yX2_succeeds, Cond.static yX2_succeeds, Cond.initialized RX2, Cond.code yX2_succeeds cX2_succeeds 8 (some .boolean)]
def wsL_law0_r21 : List Cond := [Cond.fieldLink RX2 30 "BranchNotes$State" "right" "I", Cond.fieldLink RX2 45 "BranchNotes$State" "desks" "[LBranchNotes$Desk;", Cond.fieldLink RX2 49 "BranchNotes$Desk" "strengths" "[I", Cond.fieldLink RX2 55 "BranchNotes$State" "points" "I", Cond.methodLink RX2 7 yX2_goOften, Cond.static yX2_goOften, Cond.code yX2_goOften cX2_goOften 5 (some .boolean), Cond.methodLink RX2 61 yX3_go, Cond.methodLink RX2 13 yX2_changeDesk, Cond.static yX2_changeDesk, Cond.code yX2_changeDesk cX2_changeDesk 4 (some .boolean), Cond.methodLink RX2 69 yX3_changeDesk, Cond.methodLink RX2 16 yX2_changeBoth, Cond.static yX2_changeBoth, Cond.code yX2_changeBoth cX2_changeBoth 3 (some .boolean), Cond.methodLink RX2 75 yX3_changeBoth, Cond.methodLink RX2 20 yX2_forgetAll, Cond.static yX2_forgetAll, Cond.code yX2_forgetAll cX2_forgetAll 1 (some .boolean), Cond.methodLink RX2 78 yX3_beginAnew, Cond.methodLink RX2 24 yX2_makeStrength, Cond.static yX2_makeStrength, Cond.code yX2_makeStrength cX2_makeStrength 4 (some .boolean), Cond.methodLink RX2 42 yX3_isNote]
def wsL_law0_r22 : List Cond := [Cond.methodLink RX2 81 yX3_isStrength, Cond.methodLink RX2 27 yX2_isGuess, Cond.static yX2_isGuess, Cond.code yX2_isGuess cX2_isGuess 3 (some .boolean), Cond.methodLink RX2 84 yX3_guessFor, Cond.methodLink RL 202 yL_act, Cond.static yL_act, Cond.code yL_act cL_act 7 (some .int), Cond.methodLink RL 190 yX5_clearText, Cond.instanceMethod yX5_clearText, Cond.selects RX5 yX5_clearText yX5_clearText, Cond.code yX5_clearText cX5_clearText 2 (some .int), Cond.methodLink RL 205 yL_alike, Cond.static yL_alike, Cond.code yL_alike cL_alike 5 (some .boolean), Cond.methodLink RL 176 yX5_errorPosition, Cond.instanceMethod yX5_errorPosition, Cond.selects RX5 yX5_errorPosition yX5_errorPosition, Cond.code yX5_errorPosition cX5_errorPosition 1 (some .int), Cond.methodLink RX5 61 yX4_read, Cond.methodLink RL 179 yX5_branches, Cond.instanceMethod yX5_branches, Cond.selects RX5 yX5_branches yX5_branches, Cond.code yX5_branches cX5_branches 1 (some .int)]
def wsL_law0_r23 : List Cond := [Cond.fieldLink RX5 66 "BranchNotes$Text" "stepCount" "I", Cond.methodLink RL 182 yX5_wouldBring, Cond.instanceMethod yX5_wouldBring, Cond.selects RX5 yX5_wouldBring yX5_wouldBring, Cond.code yX5_wouldBring cX5_wouldBring 1 (some .int), Cond.methodLink RL 185 yX5_worst, Cond.instanceMethod yX5_worst, Cond.selects RX5 yX5_worst yX5_worst, Cond.code yX5_worst cX5_worst 5 (some .int), Cond.methodLink RL 209 yL_holds, Cond.static yL_holds, Cond.code yL_holds cL_holds 11 (some .boolean), Cond.constant RL 188 (-99999), Cond.constant RL 189 (1065353216)]
def wsL_law0 : List Cond := (wsL_law0_r1 ++ (wsL_law0_r2 ++ (wsL_law0_r3 ++ (wsL_law0_r4 ++ (wsL_law0_r5 ++ (wsL_law0_r6 ++ (wsL_law0_r7 ++ (wsL_law0_r8 ++ (wsL_law0_r9 ++ (wsL_law0_r10 ++ (wsL_law0_r11 ++ (wsL_law0_r12 ++ (wsL_law0_r13 ++ (wsL_law0_r14 ++ (wsL_law0_r15 ++ (wsL_law0_r16 ++ (wsL_law0_r17 ++ (wsL_law0_r18 ++ (wsL_law0_r19 ++ (wsL_law0_r20 ++ (wsL_law0_r21 ++ (wsL_law0_r22 ++ wsL_law0_r23)))))))))))))))))))))) ++ wsX50 ++ wsX40 ++ wsX30 ++ wsX10 ++ wsX00 ++ ([] : List Cond)
def wsL_law : List Cond := wsL_law0 ++ (vx_atS RX5 45 "java/lang/IllegalArgumentException" ["java/lang/RuntimeException", "java/lang/Exception"]).filter goodWord ++ (vx_atS RX5 56 "java/lang/IllegalStateException" ["java/lang/RuntimeException", "java/lang/Exception"]).filter goodWord ++ (vx_atS RX5 269 "java/lang/IndexOutOfBoundsException" ["java/lang/RuntimeException", "java/lang/Exception"]).filter goodWord
end
section
theorem dX0_init_0 : decode cX0_init 0 = .ok (.aload_n 0, 1) := by decide +kernel
theorem dX0_init_1 : decode cX0_init 1 = .ok (.invokespecial 3, 3) := by decide +kernel
theorem dX0_init_4 : decode cX0_init 4 = .ok (.aload_n 0, 1) := by decide +kernel
theorem dX0_init_5 : decode cX0_init 5 = .ok (.iconst 3, 1) := by decide +kernel
theorem dX0_init_6 : decode cX0_init 6 = .ok (.newarray .int, 2) := by decide +kernel
theorem dX0_init_8 : decode cX0_init 8 = .ok (.putfield 9, 3) := by decide +kernel
theorem dX0_init_11 : decode cX0_init 11 = .ok (.aload_n 0, 1) := by decide +kernel
theorem dX0_init_12 : decode cX0_init 12 = .ok (.bipush 64, 2) := by decide +kernel
theorem dX0_init_14 : decode cX0_init 14 = .ok (.newarray .int, 2) := by decide +kernel
theorem dX0_init_16 : decode cX0_init 16 = .ok (.putfield 15, 3) := by decide +kernel
theorem dX0_init_19 : decode cX0_init 19 = .ok (.aload_n 0, 1) := by decide +kernel
theorem dX0_init_20 : decode cX0_init 20 = .ok (.bipush 64, 2) := by decide +kernel
theorem dX0_init_22 : decode cX0_init 22 = .ok (.newarray .int, 2) := by decide +kernel
theorem dX0_init_24 : decode cX0_init 24 = .ok (.putfield 18, 3) := by decide +kernel
theorem dX0_init_27 : decode cX0_init 27 = .ok (.aload_n 0, 1) := by decide +kernel
theorem dX0_init_28 : decode cX0_init 28 = .ok (.bipush 64, 2) := by decide +kernel
theorem dX0_init_30 : decode cX0_init 30 = .ok (.newarray .int, 2) := by decide +kernel
theorem dX0_init_32 : decode cX0_init 32 = .ok (.putfield 21, 3) := by decide +kernel
theorem dX0_init_35 : decode cX0_init 35 = .ok (.aload_n 0, 1) := by decide +kernel
theorem dX0_init_36 : decode cX0_init 36 = .ok (.bipush 64, 2) := by decide +kernel
theorem dX0_init_38 : decode cX0_init 38 = .ok (.newarray .int, 2) := by decide +kernel
theorem dX0_init_40 : decode cX0_init 40 = .ok (.putfield 24, 3) := by decide +kernel
theorem dX0_init_43 : decode cX0_init 43 = .ok (.aload_n 0, 1) := by decide +kernel
theorem dX0_init_44 : decode cX0_init 44 = .ok (.bipush 26, 2) := by decide +kernel
theorem dX0_init_46 : decode cX0_init 46 = .ok (.newarray .int, 2) := by decide +kernel
theorem dX0_init_48 : decode cX0_init 48 = .ok (.putfield 27, 3) := by decide +kernel
theorem dX0_init_51 : decode cX0_init 51 = .ok (.return_, 1) := by decide +kernel
theorem dX0_copyFrom_0 : decode cX0_copyFrom 0 = .ok (.aload_n 1, 1) := by decide +kernel
theorem dX0_copyFrom_1 : decode cX0_copyFrom 1 = .ok (.getfield 9, 3) := by decide +kernel
theorem dX0_copyFrom_4 : decode cX0_copyFrom 4 = .ok (.iconst 0, 1) := by decide +kernel
theorem dX0_copyFrom_5 : decode cX0_copyFrom 5 = .ok (.aload_n 0, 1) := by decide +kernel
theorem dX0_copyFrom_6 : decode cX0_copyFrom 6 = .ok (.getfield 9, 3) := by decide +kernel
theorem dX0_copyFrom_9 : decode cX0_copyFrom 9 = .ok (.iconst 0, 1) := by decide +kernel
theorem dX0_copyFrom_10 : decode cX0_copyFrom 10 = .ok (.iconst 3, 1) := by decide +kernel
theorem dX0_copyFrom_11 : decode cX0_copyFrom 11 = .ok (.invokestatic 30, 3) := by decide +kernel
theorem dX0_copyFrom_14 : decode cX0_copyFrom 14 = .ok (.aload_n 1, 1) := by decide +kernel
theorem dX0_copyFrom_15 : decode cX0_copyFrom 15 = .ok (.getfield 15, 3) := by decide +kernel
theorem dX0_copyFrom_18 : decode cX0_copyFrom 18 = .ok (.iconst 0, 1) := by decide +kernel
theorem dX0_copyFrom_19 : decode cX0_copyFrom 19 = .ok (.aload_n 0, 1) := by decide +kernel
theorem dX0_copyFrom_20 : decode cX0_copyFrom 20 = .ok (.getfield 15, 3) := by decide +kernel
theorem dX0_copyFrom_23 : decode cX0_copyFrom 23 = .ok (.iconst 0, 1) := by decide +kernel
theorem dX0_copyFrom_24 : decode cX0_copyFrom 24 = .ok (.bipush 64, 2) := by decide +kernel
theorem dX0_copyFrom_26 : decode cX0_copyFrom 26 = .ok (.invokestatic 30, 3) := by decide +kernel
theorem dX0_copyFrom_29 : decode cX0_copyFrom 29 = .ok (.aload_n 1, 1) := by decide +kernel
theorem dX0_copyFrom_30 : decode cX0_copyFrom 30 = .ok (.getfield 18, 3) := by decide +kernel
theorem dX0_copyFrom_33 : decode cX0_copyFrom 33 = .ok (.iconst 0, 1) := by decide +kernel
theorem dX0_copyFrom_34 : decode cX0_copyFrom 34 = .ok (.aload_n 0, 1) := by decide +kernel
theorem dX0_copyFrom_35 : decode cX0_copyFrom 35 = .ok (.getfield 18, 3) := by decide +kernel
theorem dX0_copyFrom_38 : decode cX0_copyFrom 38 = .ok (.iconst 0, 1) := by decide +kernel
theorem dX0_copyFrom_39 : decode cX0_copyFrom 39 = .ok (.bipush 64, 2) := by decide +kernel
theorem dX0_copyFrom_41 : decode cX0_copyFrom 41 = .ok (.invokestatic 30, 3) := by decide +kernel
theorem dX0_copyFrom_44 : decode cX0_copyFrom 44 = .ok (.aload_n 1, 1) := by decide +kernel
theorem dX0_copyFrom_45 : decode cX0_copyFrom 45 = .ok (.getfield 21, 3) := by decide +kernel
theorem dX0_copyFrom_48 : decode cX0_copyFrom 48 = .ok (.iconst 0, 1) := by decide +kernel
theorem dX0_copyFrom_49 : decode cX0_copyFrom 49 = .ok (.aload_n 0, 1) := by decide +kernel
theorem dX0_copyFrom_50 : decode cX0_copyFrom 50 = .ok (.getfield 21, 3) := by decide +kernel
theorem dX0_copyFrom_53 : decode cX0_copyFrom 53 = .ok (.iconst 0, 1) := by decide +kernel
theorem dX0_copyFrom_54 : decode cX0_copyFrom 54 = .ok (.bipush 64, 2) := by decide +kernel
theorem dX0_copyFrom_56 : decode cX0_copyFrom 56 = .ok (.invokestatic 30, 3) := by decide +kernel
theorem dX0_copyFrom_59 : decode cX0_copyFrom 59 = .ok (.aload_n 1, 1) := by decide +kernel
theorem dX0_copyFrom_60 : decode cX0_copyFrom 60 = .ok (.getfield 24, 3) := by decide +kernel
theorem dX0_copyFrom_63 : decode cX0_copyFrom 63 = .ok (.iconst 0, 1) := by decide +kernel
theorem dX0_copyFrom_64 : decode cX0_copyFrom 64 = .ok (.aload_n 0, 1) := by decide +kernel
theorem dX0_copyFrom_65 : decode cX0_copyFrom 65 = .ok (.getfield 24, 3) := by decide +kernel
theorem dX0_copyFrom_68 : decode cX0_copyFrom 68 = .ok (.iconst 0, 1) := by decide +kernel
theorem dX0_copyFrom_69 : decode cX0_copyFrom 69 = .ok (.bipush 64, 2) := by decide +kernel
theorem dX0_copyFrom_71 : decode cX0_copyFrom 71 = .ok (.invokestatic 30, 3) := by decide +kernel
theorem dX0_copyFrom_74 : decode cX0_copyFrom 74 = .ok (.aload_n 1, 1) := by decide +kernel
theorem dX0_copyFrom_75 : decode cX0_copyFrom 75 = .ok (.getfield 27, 3) := by decide +kernel
theorem dX0_copyFrom_78 : decode cX0_copyFrom 78 = .ok (.iconst 0, 1) := by decide +kernel
theorem dX0_copyFrom_79 : decode cX0_copyFrom 79 = .ok (.aload_n 0, 1) := by decide +kernel
theorem dX0_copyFrom_80 : decode cX0_copyFrom 80 = .ok (.getfield 27, 3) := by decide +kernel
theorem dX0_copyFrom_83 : decode cX0_copyFrom 83 = .ok (.iconst 0, 1) := by decide +kernel
theorem dX0_copyFrom_84 : decode cX0_copyFrom 84 = .ok (.bipush 26, 2) := by decide +kernel
theorem dX0_copyFrom_86 : decode cX0_copyFrom 86 = .ok (.invokestatic 30, 3) := by decide +kernel
theorem dX0_copyFrom_89 : decode cX0_copyFrom 89 = .ok (.aload_n 0, 1) := by decide +kernel
theorem dX0_copyFrom_90 : decode cX0_copyFrom 90 = .ok (.aload_n 1, 1) := by decide +kernel
theorem dX0_copyFrom_91 : decode cX0_copyFrom 91 = .ok (.getfield 36, 3) := by decide +kernel
theorem dX0_copyFrom_94 : decode cX0_copyFrom 94 = .ok (.putfield 36, 3) := by decide +kernel
theorem dX0_copyFrom_97 : decode cX0_copyFrom 97 = .ok (.aload_n 0, 1) := by decide +kernel
theorem dX0_copyFrom_98 : decode cX0_copyFrom 98 = .ok (.aload_n 1, 1) := by decide +kernel
theorem dX0_copyFrom_99 : decode cX0_copyFrom 99 = .ok (.getfield 40, 3) := by decide +kernel
theorem dX0_copyFrom_102 : decode cX0_copyFrom 102 = .ok (.putfield 40, 3) := by decide +kernel
theorem dX0_copyFrom_105 : decode cX0_copyFrom 105 = .ok (.return_, 1) := by decide +kernel
set_option maxRecDepth 20000 in
theorem ggX0_beginAnew_J7_fill_53178 : GoodIn wsX0_beginAnew wsJ7_fill_53178 := goodIn_r _ [12] (by decide +kernel) (by decide +kernel)
set_option maxRecDepth 20000 in
theorem gX0_beginAnew_J7_fill_53178 : GoodIn wsX0_beginAnew (va_wsS RX0 43 yJ7_fill_53178 wsJ7_fill_53178) := goodIn_app (goodIn_of _ (by decide +kernel)) ggX0_beginAnew_J7_fill_53178
theorem dX0_beginAnew_0 : decode cX0_beginAnew 0 = .ok (.aload_n 0, 1) := by decide +kernel
theorem dX0_beginAnew_1 : decode cX0_beginAnew 1 = .ok (.getfield 15, 3) := by decide +kernel
theorem dX0_beginAnew_4 : decode cX0_beginAnew 4 = .ok (.iload_n 1, 1) := by decide +kernel
theorem dX0_beginAnew_5 : decode cX0_beginAnew 5 = .ok (.iconst 1, 1) := by decide +kernel
theorem dX0_beginAnew_6 : decode cX0_beginAnew 6 = .ok (.isub, 1) := by decide +kernel
theorem dX0_beginAnew_7 : decode cX0_beginAnew 7 = .ok (.invokestatic 43, 3) := by decide +kernel
theorem dX0_beginAnew_10 : decode cX0_beginAnew 10 = .ok (.aload_n 0, 1) := by decide +kernel
theorem dX0_beginAnew_11 : decode cX0_beginAnew 11 = .ok (.getfield 18, 3) := by decide +kernel
theorem dX0_beginAnew_14 : decode cX0_beginAnew 14 = .ok (.ldc 49, 2) := by decide +kernel
theorem dX0_beginAnew_16 : decode cX0_beginAnew 16 = .ok (.invokestatic 43, 3) := by decide +kernel
theorem dX0_beginAnew_19 : decode cX0_beginAnew 19 = .ok (.aload_n 0, 1) := by decide +kernel
theorem dX0_beginAnew_20 : decode cX0_beginAnew 20 = .ok (.getfield 21, 3) := by decide +kernel
theorem dX0_beginAnew_23 : decode cX0_beginAnew 23 = .ok (.iconst 0, 1) := by decide +kernel
theorem dX0_beginAnew_24 : decode cX0_beginAnew 24 = .ok (.invokestatic 43, 3) := by decide +kernel
theorem dX0_beginAnew_27 : decode cX0_beginAnew 27 = .ok (.aload_n 0, 1) := by decide +kernel
theorem dX0_beginAnew_28 : decode cX0_beginAnew 28 = .ok (.getfield 24, 3) := by decide +kernel
theorem dX0_beginAnew_31 : decode cX0_beginAnew 31 = .ok (.iconst 0, 1) := by decide +kernel
theorem dX0_beginAnew_32 : decode cX0_beginAnew 32 = .ok (.invokestatic 43, 3) := by decide +kernel
theorem dX0_beginAnew_35 : decode cX0_beginAnew 35 = .ok (.aload_n 0, 1) := by decide +kernel
theorem dX0_beginAnew_36 : decode cX0_beginAnew 36 = .ok (.getfield 27, 3) := by decide +kernel
theorem dX0_beginAnew_39 : decode cX0_beginAnew 39 = .ok (.iconst 0, 1) := by decide +kernel
theorem dX0_beginAnew_40 : decode cX0_beginAnew 40 = .ok (.invokestatic 43, 3) := by decide +kernel
theorem dX0_beginAnew_43 : decode cX0_beginAnew 43 = .ok (.aload_n 0, 1) := by decide +kernel
theorem dX0_beginAnew_44 : decode cX0_beginAnew 44 = .ok (.iconst 0, 1) := by decide +kernel
theorem dX0_beginAnew_45 : decode cX0_beginAnew 45 = .ok (.putfield 36, 3) := by decide +kernel
theorem dX0_beginAnew_48 : decode cX0_beginAnew 48 = .ok (.aload_n 0, 1) := by decide +kernel
theorem dX0_beginAnew_49 : decode cX0_beginAnew 49 = .ok (.iconst 0, 1) := by decide +kernel
theorem dX0_beginAnew_50 : decode cX0_beginAnew 50 = .ok (.putfield 40, 3) := by decide +kernel
theorem dX0_beginAnew_53 : decode cX0_beginAnew 53 = .ok (.return_, 1) := by decide +kernel
theorem dX0_countUsed_0 : decode cX0_countUsed 0 = .ok (.iconst 0, 1) := by decide +kernel
theorem dX0_countUsed_1 : decode cX0_countUsed 1 = .ok (.istore_n 1, 1) := by decide +kernel
theorem dX0_countUsed_2 : decode cX0_countUsed 2 = .ok (.iconst 0, 1) := by decide +kernel
theorem dX0_countUsed_3 : decode cX0_countUsed 3 = .ok (.istore_n 2, 1) := by decide +kernel
theorem dX0_countUsed_4 : decode cX0_countUsed 4 = .ok (.iload_n 2, 1) := by decide +kernel
theorem dX0_countUsed_5 : decode cX0_countUsed 5 = .ok (.bipush 64, 2) := by decide +kernel
theorem dX0_countUsed_7 : decode cX0_countUsed 7 = .ok (.if_icmp .ge 21, 3) := by decide +kernel
theorem dX0_countUsed_10 : decode cX0_countUsed 10 = .ok (.aload_n 0, 1) := by decide +kernel
theorem dX0_countUsed_11 : decode cX0_countUsed 11 = .ok (.getfield 21, 3) := by decide +kernel
theorem dX0_countUsed_14 : decode cX0_countUsed 14 = .ok (.iload_n 2, 1) := by decide +kernel
theorem dX0_countUsed_15 : decode cX0_countUsed 15 = .ok (.iaload, 1) := by decide +kernel
theorem dX0_countUsed_16 : decode cX0_countUsed 16 = .ok (.ifCond .le 6, 3) := by decide +kernel
theorem dX0_countUsed_19 : decode cX0_countUsed 19 = .ok (.iinc 1 1, 3) := by decide +kernel
theorem dX0_countUsed_22 : decode cX0_countUsed 22 = .ok (.iinc 2 1, 3) := by decide +kernel
theorem dX0_countUsed_25 : decode cX0_countUsed 25 = .ok (.goto (-21), 3) := by decide +kernel
theorem dX0_countUsed_28 : decode cX0_countUsed 28 = .ok (.iload_n 1, 1) := by decide +kernel
theorem dX0_countUsed_29 : decode cX0_countUsed 29 = .ok (.ireturn, 1) := by decide +kernel
theorem dX0_pathFor_0 : decode cX0_pathFor 0 = .ok (.aload_n 0, 1) := by decide +kernel
theorem dX0_pathFor_1 : decode cX0_pathFor 1 = .ok (.getfield 27, 3) := by decide +kernel
theorem dX0_pathFor_4 : decode cX0_pathFor 4 = .ok (.aload_n 0, 1) := by decide +kernel
theorem dX0_pathFor_5 : decode cX0_pathFor 5 = .ok (.getfield 9, 3) := by decide +kernel
theorem dX0_pathFor_8 : decode cX0_pathFor 8 = .ok (.iconst 2, 1) := by decide +kernel
theorem dX0_pathFor_9 : decode cX0_pathFor 9 = .ok (.iaload, 1) := by decide +kernel
theorem dX0_pathFor_10 : decode cX0_pathFor 10 = .ok (.iconst 1, 1) := by decide +kernel
theorem dX0_pathFor_11 : decode cX0_pathFor 11 = .ok (.if_icmp .ne 7, 3) := by decide +kernel
theorem dX0_pathFor_14 : decode cX0_pathFor 14 = .ok (.iload_n 1, 1) := by decide +kernel
theorem dX0_pathFor_15 : decode cX0_pathFor 15 = .ok (.goto 4, 3) := by decide +kernel
theorem dX0_pathFor_18 : decode cX0_pathFor 18 = .ok (.iconst 0, 1) := by decide +kernel
theorem dX0_pathFor_19 : decode cX0_pathFor 19 = .ok (.iaload, 1) := by decide +kernel
theorem dX0_pathFor_20 : decode cX0_pathFor 20 = .ok (.ireturn, 1) := by decide +kernel
set_option maxRecDepth 20000 in
theorem ggX0_noteFor_X0_pathFor : GoodIn wsX0_noteFor wsX0_pathFor := goodIn_r _ [6, 7, 1, 8, 9, 10, 11, 12, 13, 14, 15] (by decide +kernel) (by decide +kernel)
set_option maxRecDepth 20000 in
theorem gX0_noteFor_X0_pathFor : GoodIn wsX0_noteFor (wsV RX0 50 RX0 yX0_pathFor wsX0_pathFor) := goodIn_app (goodIn_of _ (by decide +kernel)) ggX0_noteFor_X0_pathFor
theorem dX0_noteFor_0 : decode cX0_noteFor 0 = .ok (.aload_n 0, 1) := by decide +kernel
theorem dX0_noteFor_1 : decode cX0_noteFor 1 = .ok (.iload_n 1, 1) := by decide +kernel
theorem dX0_noteFor_2 : decode cX0_noteFor 2 = .ok (.invokevirtual 50, 3) := by decide +kernel
theorem dX0_noteFor_5 : decode cX0_noteFor 5 = .ok (.istore_n 3, 1) := by decide +kernel
theorem dX0_noteFor_6 : decode cX0_noteFor 6 = .ok (.aload_n 0, 1) := by decide +kernel
theorem dX0_noteFor_7 : decode cX0_noteFor 7 = .ok (.getfield 9, 3) := by decide +kernel
theorem dX0_noteFor_10 : decode cX0_noteFor 10 = .ok (.iconst 0, 1) := by decide +kernel
theorem dX0_noteFor_11 : decode cX0_noteFor 11 = .ok (.iaload, 1) := by decide +kernel
theorem dX0_noteFor_12 : decode cX0_noteFor 12 = .ok (.tableswitch 60 0 3 #[32, 38, 44, 52], 32) := by decide +kernel
theorem dX0_noteFor_44 : decode cX0_noteFor 44 = .ok (.iload_n 1, 1) := by decide +kernel
theorem dX0_noteFor_45 : decode cX0_noteFor 45 = .ok (.istore 4, 2) := by decide +kernel
theorem dX0_noteFor_47 : decode cX0_noteFor 47 = .ok (.goto 37, 3) := by decide +kernel
theorem dX0_noteFor_50 : decode cX0_noteFor 50 = .ok (.iload_n 3, 1) := by decide +kernel
theorem dX0_noteFor_51 : decode cX0_noteFor 51 = .ok (.istore 4, 2) := by decide +kernel
theorem dX0_noteFor_53 : decode cX0_noteFor 53 = .ok (.goto 31, 3) := by decide +kernel
theorem dX0_noteFor_56 : decode cX0_noteFor 56 = .ok (.iload_n 1, 1) := by decide +kernel
theorem dX0_noteFor_57 : decode cX0_noteFor 57 = .ok (.iload_n 3, 1) := by decide +kernel
theorem dX0_noteFor_58 : decode cX0_noteFor 58 = .ok (.iadd, 1) := by decide +kernel
theorem dX0_noteFor_59 : decode cX0_noteFor 59 = .ok (.istore 4, 2) := by decide +kernel
theorem dX0_noteFor_61 : decode cX0_noteFor 61 = .ok (.goto 23, 3) := by decide +kernel
theorem dX0_noteFor_64 : decode cX0_noteFor 64 = .ok (.iload_n 1, 1) := by decide +kernel
theorem dX0_noteFor_65 : decode cX0_noteFor 65 = .ok (.iload_n 3, 1) := by decide +kernel
theorem dX0_noteFor_66 : decode cX0_noteFor 66 = .ok (.ixor, 1) := by decide +kernel
theorem dX0_noteFor_67 : decode cX0_noteFor 67 = .ok (.istore 4, 2) := by decide +kernel
theorem dX0_noteFor_69 : decode cX0_noteFor 69 = .ok (.goto 15, 3) := by decide +kernel
theorem dX0_noteFor_72 : decode cX0_noteFor 72 = .ok (.iload_n 1, 1) := by decide +kernel
theorem dX0_noteFor_73 : decode cX0_noteFor 73 = .ok (.aload_n 0, 1) := by decide +kernel
theorem dX0_noteFor_74 : decode cX0_noteFor 74 = .ok (.getfield 9, 3) := by decide +kernel
theorem dX0_noteFor_77 : decode cX0_noteFor 77 = .ok (.iconst 1, 1) := by decide +kernel
theorem dX0_noteFor_78 : decode cX0_noteFor 78 = .ok (.iaload, 1) := by decide +kernel
theorem dX0_noteFor_79 : decode cX0_noteFor 79 = .ok (.ishl, 1) := by decide +kernel
theorem dX0_noteFor_80 : decode cX0_noteFor 80 = .ok (.iload_n 3, 1) := by decide +kernel
theorem dX0_noteFor_81 : decode cX0_noteFor 81 = .ok (.iadd, 1) := by decide +kernel
theorem dX0_noteFor_82 : decode cX0_noteFor 82 = .ok (.istore 4, 2) := by decide +kernel
theorem dX0_noteFor_84 : decode cX0_noteFor 84 = .ok (.iload 4, 2) := by decide +kernel
theorem dX0_noteFor_86 : decode cX0_noteFor 86 = .ok (.iconst 1, 1) := by decide +kernel
theorem dX0_noteFor_87 : decode cX0_noteFor 87 = .ok (.iload_n 2, 1) := by decide +kernel
theorem dX0_noteFor_88 : decode cX0_noteFor 88 = .ok (.ishl, 1) := by decide +kernel
theorem dX0_noteFor_89 : decode cX0_noteFor 89 = .ok (.iconst 1, 1) := by decide +kernel
theorem dX0_noteFor_90 : decode cX0_noteFor 90 = .ok (.isub, 1) := by decide +kernel
theorem dX0_noteFor_91 : decode cX0_noteFor 91 = .ok (.iand, 1) := by decide +kernel
theorem dX0_noteFor_92 : decode cX0_noteFor 92 = .ok (.ireturn, 1) := by decide +kernel
theorem dX0_use_0 : decode cX0_use 0 = .ok (.aload_n 0, 1) := by decide +kernel
theorem dX0_use_1 : decode cX0_use 1 = .ok (.getfield 21, 3) := by decide +kernel
theorem dX0_use_4 : decode cX0_use 4 = .ok (.iload_n 1, 1) := by decide +kernel
theorem dX0_use_5 : decode cX0_use 5 = .ok (.iaload, 1) := by decide +kernel
theorem dX0_use_6 : decode cX0_use 6 = .ok (.ifCond .le 23, 3) := by decide +kernel
theorem dX0_use_9 : decode cX0_use 9 = .ok (.aload_n 0, 1) := by decide +kernel
theorem dX0_use_10 : decode cX0_use 10 = .ok (.getfield 18, 3) := by decide +kernel
theorem dX0_use_13 : decode cX0_use 13 = .ok (.iload_n 1, 1) := by decide +kernel
theorem dX0_use_14 : decode cX0_use 14 = .ok (.iaload, 1) := by decide +kernel
theorem dX0_use_15 : decode cX0_use 15 = .ok (.iload_n 2, 1) := by decide +kernel
theorem dX0_use_16 : decode cX0_use 16 = .ok (.if_icmp .eq 13, 3) := by decide +kernel
theorem dX0_use_19 : decode cX0_use 19 = .ok (.aload_n 0, 1) := by decide +kernel
theorem dX0_use_20 : decode cX0_use 20 = .ok (.dup, 1) := by decide +kernel
theorem dX0_use_21 : decode cX0_use 21 = .ok (.getfield 36, 3) := by decide +kernel
theorem dX0_use_24 : decode cX0_use 24 = .ok (.iconst 1, 1) := by decide +kernel
theorem dX0_use_25 : decode cX0_use 25 = .ok (.iadd, 1) := by decide +kernel
theorem dX0_use_26 : decode cX0_use 26 = .ok (.putfield 36, 3) := by decide +kernel
theorem dX0_use_29 : decode cX0_use 29 = .ok (.aload_n 0, 1) := by decide +kernel
theorem dX0_use_30 : decode cX0_use 30 = .ok (.getfield 21, 3) := by decide +kernel
theorem dX0_use_33 : decode cX0_use 33 = .ok (.iload_n 1, 1) := by decide +kernel
theorem dX0_use_34 : decode cX0_use 34 = .ok (.dup2, 1) := by decide +kernel
theorem dX0_use_35 : decode cX0_use 35 = .ok (.iaload, 1) := by decide +kernel
theorem dX0_use_36 : decode cX0_use 36 = .ok (.iconst 1, 1) := by decide +kernel
theorem dX0_use_37 : decode cX0_use 37 = .ok (.iadd, 1) := by decide +kernel
theorem dX0_use_38 : decode cX0_use 38 = .ok (.iastore, 1) := by decide +kernel
theorem dX0_use_39 : decode cX0_use 39 = .ok (.aload_n 0, 1) := by decide +kernel
theorem dX0_use_40 : decode cX0_use 40 = .ok (.getfield 18, 3) := by decide +kernel
theorem dX0_use_43 : decode cX0_use 43 = .ok (.iload_n 1, 1) := by decide +kernel
theorem dX0_use_44 : decode cX0_use 44 = .ok (.iload_n 2, 1) := by decide +kernel
theorem dX0_use_45 : decode cX0_use 45 = .ok (.iastore, 1) := by decide +kernel
theorem dX0_use_46 : decode cX0_use 46 = .ok (.aload_n 0, 1) := by decide +kernel
theorem dX0_use_47 : decode cX0_use 47 = .ok (.getfield 15, 3) := by decide +kernel
theorem dX0_use_50 : decode cX0_use 50 = .ok (.iload_n 1, 1) := by decide +kernel
theorem dX0_use_51 : decode cX0_use 51 = .ok (.iaload, 1) := by decide +kernel
theorem dX0_use_52 : decode cX0_use 52 = .ok (.iload 4, 2) := by decide +kernel
theorem dX0_use_54 : decode cX0_use 54 = .ok (.if_icmp .lt 7, 3) := by decide +kernel
theorem dX0_use_57 : decode cX0_use 57 = .ok (.iconst 1, 1) := by decide +kernel
theorem dX0_use_58 : decode cX0_use 58 = .ok (.goto 4, 3) := by decide +kernel
theorem dX0_use_61 : decode cX0_use 61 = .ok (.iconst 0, 1) := by decide +kernel
theorem dX0_use_62 : decode cX0_use 62 = .ok (.iload_n 3, 1) := by decide +kernel
theorem dX0_use_63 : decode cX0_use 63 = .ok (.if_icmp .ne 23, 3) := by decide +kernel
theorem dX0_use_66 : decode cX0_use 66 = .ok (.aload_n 0, 1) := by decide +kernel
theorem dX0_use_67 : decode cX0_use 67 = .ok (.getfield 24, 3) := by decide +kernel
theorem dX0_use_70 : decode cX0_use 70 = .ok (.iload_n 1, 1) := by decide +kernel
theorem dX0_use_71 : decode cX0_use 71 = .ok (.dup2, 1) := by decide +kernel
theorem dX0_use_72 : decode cX0_use 72 = .ok (.iaload, 1) := by decide +kernel
theorem dX0_use_73 : decode cX0_use 73 = .ok (.iconst 1, 1) := by decide +kernel
theorem dX0_use_74 : decode cX0_use 74 = .ok (.iadd, 1) := by decide +kernel
theorem dX0_use_75 : decode cX0_use 75 = .ok (.iastore, 1) := by decide +kernel
theorem dX0_use_76 : decode cX0_use 76 = .ok (.aload_n 0, 1) := by decide +kernel
theorem dX0_use_77 : decode cX0_use 77 = .ok (.dup, 1) := by decide +kernel
theorem dX0_use_78 : decode cX0_use 78 = .ok (.getfield 40, 3) := by decide +kernel
theorem dX0_use_81 : decode cX0_use 81 = .ok (.iconst 1, 1) := by decide +kernel
theorem dX0_use_82 : decode cX0_use 82 = .ok (.iadd, 1) := by decide +kernel
theorem dX0_use_83 : decode cX0_use 83 = .ok (.putfield 40, 3) := by decide +kernel
theorem dX0_use_86 : decode cX0_use 86 = .ok (.iload_n 3, 1) := by decide +kernel
theorem dX0_use_87 : decode cX0_use 87 = .ok (.ifCond .eq 29, 3) := by decide +kernel
theorem dX0_use_90 : decode cX0_use 90 = .ok (.aload_n 0, 1) := by decide +kernel
theorem dX0_use_91 : decode cX0_use 91 = .ok (.getfield 15, 3) := by decide +kernel
theorem dX0_use_94 : decode cX0_use 94 = .ok (.iload_n 1, 1) := by decide +kernel
theorem dX0_use_95 : decode cX0_use 95 = .ok (.aload_n 0, 1) := by decide +kernel
theorem dX0_use_96 : decode cX0_use 96 = .ok (.getfield 15, 3) := by decide +kernel
theorem dX0_use_99 : decode cX0_use 99 = .ok (.iload_n 1, 1) := by decide +kernel
theorem dX0_use_100 : decode cX0_use 100 = .ok (.iaload, 1) := by decide +kernel
theorem dX0_use_101 : decode cX0_use 101 = .ok (.iconst 1, 1) := by decide +kernel
theorem dX0_use_102 : decode cX0_use 102 = .ok (.iadd, 1) := by decide +kernel
theorem dX0_use_103 : decode cX0_use 103 = .ok (.iconst 2, 1) := by decide +kernel
theorem dX0_use_104 : decode cX0_use 104 = .ok (.iload 4, 2) := by decide +kernel
theorem dX0_use_106 : decode cX0_use 106 = .ok (.imul, 1) := by decide +kernel
theorem dX0_use_107 : decode cX0_use 107 = .ok (.iconst 1, 1) := by decide +kernel
theorem dX0_use_108 : decode cX0_use 108 = .ok (.isub, 1) := by decide +kernel
theorem dX0_use_109 : decode cX0_use 109 = .ok (.invokestatic 54, 3) := by decide +kernel
theorem dX0_use_112 : decode cX0_use 112 = .ok (.iastore, 1) := by decide +kernel
theorem dX0_use_113 : decode cX0_use 113 = .ok (.goto 21, 3) := by decide +kernel
theorem dX0_use_116 : decode cX0_use 116 = .ok (.aload_n 0, 1) := by decide +kernel
theorem dX0_use_117 : decode cX0_use 117 = .ok (.getfield 15, 3) := by decide +kernel
theorem dX0_use_120 : decode cX0_use 120 = .ok (.iload_n 1, 1) := by decide +kernel
theorem dX0_use_121 : decode cX0_use 121 = .ok (.aload_n 0, 1) := by decide +kernel
theorem dX0_use_122 : decode cX0_use 122 = .ok (.getfield 15, 3) := by decide +kernel
theorem dX0_use_125 : decode cX0_use 125 = .ok (.iload_n 1, 1) := by decide +kernel
theorem dX0_use_126 : decode cX0_use 126 = .ok (.iaload, 1) := by decide +kernel
theorem dX0_use_127 : decode cX0_use 127 = .ok (.iconst 1, 1) := by decide +kernel
theorem dX0_use_128 : decode cX0_use 128 = .ok (.isub, 1) := by decide +kernel
theorem dX0_use_129 : decode cX0_use 129 = .ok (.iconst 0, 1) := by decide +kernel
theorem dX0_use_130 : decode cX0_use 130 = .ok (.invokestatic 60, 3) := by decide +kernel
theorem dX0_use_133 : decode cX0_use 133 = .ok (.iastore, 1) := by decide +kernel
theorem dX0_use_134 : decode cX0_use 134 = .ok (.return_, 1) := by decide +kernel
set_option maxRecDepth 20000 in
theorem ggX0_changePath_X0_pathFor : GoodIn wsX0_changePath wsX0_pathFor := goodIn_r _ [7, 1, 2, 8, 9, 10, 11, 12, 13, 14, 15] (by decide +kernel) (by decide +kernel)
set_option maxRecDepth 20000 in
theorem gX0_changePath_X0_pathFor : GoodIn wsX0_changePath (wsV RX0 50 RX0 yX0_pathFor wsX0_pathFor) := goodIn_app (goodIn_of _ (by decide +kernel)) ggX0_changePath_X0_pathFor
theorem dX0_changePath_0 : decode cX0_changePath 0 = .ok (.iconst 2, 1) := by decide +kernel
theorem dX0_changePath_1 : decode cX0_changePath 1 = .ok (.aload_n 0, 1) := by decide +kernel
theorem dX0_changePath_2 : decode cX0_changePath 2 = .ok (.iload_n 1, 1) := by decide +kernel
theorem dX0_changePath_3 : decode cX0_changePath 3 = .ok (.invokevirtual 50, 3) := by decide +kernel
theorem dX0_changePath_6 : decode cX0_changePath 6 = .ok (.imul, 1) := by decide +kernel
theorem dX0_changePath_7 : decode cX0_changePath 7 = .ok (.iload_n 2, 1) := by decide +kernel
theorem dX0_changePath_8 : decode cX0_changePath 8 = .ok (.ifCond .eq 7, 3) := by decide +kernel
theorem dX0_changePath_11 : decode cX0_changePath 11 = .ok (.iconst 1, 1) := by decide +kernel
theorem dX0_changePath_12 : decode cX0_changePath 12 = .ok (.goto 4, 3) := by decide +kernel
theorem dX0_changePath_15 : decode cX0_changePath 15 = .ok (.iconst 0, 1) := by decide +kernel
theorem dX0_changePath_16 : decode cX0_changePath 16 = .ok (.iadd, 1) := by decide +kernel
theorem dX0_changePath_17 : decode cX0_changePath 17 = .ok (.istore_n 3, 1) := by decide +kernel
theorem dX0_changePath_18 : decode cX0_changePath 18 = .ok (.aload_n 0, 1) := by decide +kernel
theorem dX0_changePath_19 : decode cX0_changePath 19 = .ok (.getfield 27, 3) := by decide +kernel
theorem dX0_changePath_22 : decode cX0_changePath 22 = .ok (.aload_n 0, 1) := by decide +kernel
theorem dX0_changePath_23 : decode cX0_changePath 23 = .ok (.getfield 9, 3) := by decide +kernel
theorem dX0_changePath_26 : decode cX0_changePath 26 = .ok (.iconst 2, 1) := by decide +kernel
theorem dX0_changePath_27 : decode cX0_changePath 27 = .ok (.iaload, 1) := by decide +kernel
theorem dX0_changePath_28 : decode cX0_changePath 28 = .ok (.iconst 1, 1) := by decide +kernel
theorem dX0_changePath_29 : decode cX0_changePath 29 = .ok (.if_icmp .ne 7, 3) := by decide +kernel
theorem dX0_changePath_32 : decode cX0_changePath 32 = .ok (.iload_n 1, 1) := by decide +kernel
theorem dX0_changePath_33 : decode cX0_changePath 33 = .ok (.goto 4, 3) := by decide +kernel
theorem dX0_changePath_36 : decode cX0_changePath 36 = .ok (.iconst 0, 1) := by decide +kernel
theorem dX0_changePath_37 : decode cX0_changePath 37 = .ok (.iload_n 3, 1) := by decide +kernel
theorem dX0_changePath_38 : decode cX0_changePath 38 = .ok (.iconst 1, 1) := by decide +kernel
theorem dX0_changePath_39 : decode cX0_changePath 39 = .ok (.aload_n 0, 1) := by decide +kernel
theorem dX0_changePath_40 : decode cX0_changePath 40 = .ok (.getfield 9, 3) := by decide +kernel
theorem dX0_changePath_43 : decode cX0_changePath 43 = .ok (.iconst 1, 1) := by decide +kernel
theorem dX0_changePath_44 : decode cX0_changePath 44 = .ok (.iaload, 1) := by decide +kernel
theorem dX0_changePath_45 : decode cX0_changePath 45 = .ok (.ishl, 1) := by decide +kernel
theorem dX0_changePath_46 : decode cX0_changePath 46 = .ok (.iconst 1, 1) := by decide +kernel
theorem dX0_changePath_47 : decode cX0_changePath 47 = .ok (.isub, 1) := by decide +kernel
theorem dX0_changePath_48 : decode cX0_changePath 48 = .ok (.iand, 1) := by decide +kernel
theorem dX0_changePath_49 : decode cX0_changePath 49 = .ok (.iastore, 1) := by decide +kernel
theorem dX0_changePath_50 : decode cX0_changePath 50 = .ok (.return_, 1) := by decide +kernel
set_option maxRecDepth 20000 in
theorem ggX1_init_X3_init : GoodIn wsX1_init wsX3_init := goodIn_r _ [10, 11, 2, 3, 12, 13, 14, 15, 16, 17, 18, 19, 20, 21, 22, 23, 24, 25, 26, 27, 28, 29, 30, 31, 32, 33, 34, 7, 35, 36, 37, 38, 39, 40, 41, 42, 43, 44, 45, 46, 47, 48, 49, 50, 51, 52, 56, 57, 58, 59, 60, 61, 62, 63, 64, 65, 66, 67, 68, 69, 70, 71, 72, 73, 74] (by decide +kernel) (by decide +kernel)
set_option maxRecDepth 20000 in
theorem gX1_init_X3_init : GoodIn wsX1_init (wsX3_init) := ggX1_init_X3_init
theorem dX1_init_0 : decode cX1_init 0 = .ok (.aload_n 0, 1) := by decide +kernel
theorem dX1_init_1 : decode cX1_init 1 = .ok (.invokespecial 1, 3) := by decide +kernel
theorem dX1_init_4 : decode cX1_init 4 = .ok (.aload_n 0, 1) := by decide +kernel
theorem dX1_init_5 : decode cX1_init 5 = .ok (.bipush 14, 2) := by decide +kernel
theorem dX1_init_7 : decode cX1_init 7 = .ok (.anewarray 9, 3) := by decide +kernel
theorem dX1_init_10 : decode cX1_init 10 = .ok (.putfield 11, 3) := by decide +kernel
theorem dX1_init_13 : decode cX1_init 13 = .ok (.iconst 0, 1) := by decide +kernel
theorem dX1_init_14 : decode cX1_init 14 = .ok (.istore_n 1, 1) := by decide +kernel
theorem dX1_init_15 : decode cX1_init 15 = .ok (.iload_n 1, 1) := by decide +kernel
theorem dX1_init_16 : decode cX1_init 16 = .ok (.bipush 14, 2) := by decide +kernel
theorem dX1_init_18 : decode cX1_init 18 = .ok (.if_icmp .ge 22, 3) := by decide +kernel
theorem dX1_init_21 : decode cX1_init 21 = .ok (.aload_n 0, 1) := by decide +kernel
theorem dX1_init_22 : decode cX1_init 22 = .ok (.getfield 11, 3) := by decide +kernel
theorem dX1_init_25 : decode cX1_init 25 = .ok (.iload_n 1, 1) := by decide +kernel
theorem dX1_init_26 : decode cX1_init 26 = .ok (.new 9, 3) := by decide +kernel
theorem dX1_init_29 : decode cX1_init 29 = .ok (.dup, 1) := by decide +kernel
theorem dX1_init_30 : decode cX1_init 30 = .ok (.invokespecial 15, 3) := by decide +kernel
theorem dX1_init_33 : decode cX1_init 33 = .ok (.aastore, 1) := by decide +kernel
theorem dX1_init_34 : decode cX1_init 34 = .ok (.iinc 1 1, 3) := by decide +kernel
theorem dX1_init_37 : decode cX1_init 37 = .ok (.goto (-22), 3) := by decide +kernel
theorem dX1_init_40 : decode cX1_init 40 = .ok (.return_, 1) := by decide +kernel
set_option maxRecDepth 20000 in
theorem ggX1_remember_X3_copyFrom : GoodIn wsX1_remember wsX3_copyFrom := goodIn_r _ [8, 9, 10, 11, 12, 13, 14, 15, 16, 17, 18, 19, 20, 21, 22, 23, 24, 25, 26, 27, 28, 29, 30, 31, 32, 33, 34, 35, 36, 37, 41, 42, 43, 44, 45, 46, 47, 48, 49, 50, 51, 52, 53, 54, 55, 56, 57, 58, 59] (by decide +kernel) (by decide +kernel)
set_option maxRecDepth 20000 in
theorem gX1_remember_X3_copyFrom : GoodIn wsX1_remember (wsV RX1 23 RX3 yX3_copyFrom wsX3_copyFrom) := goodIn_app (goodIn_of _ (by decide +kernel)) ggX1_remember_X3_copyFrom
theorem dX1_remember_0 : decode cX1_remember 0 = .ok (.aload_n 0, 1) := by decide +kernel
theorem dX1_remember_1 : decode cX1_remember 1 = .ok (.getfield 16, 3) := by decide +kernel
theorem dX1_remember_4 : decode cX1_remember 4 = .ok (.bipush 14, 2) := by decide +kernel
theorem dX1_remember_6 : decode cX1_remember 6 = .ok (.if_icmp .ne 26, 3) := by decide +kernel
theorem dX1_remember_9 : decode cX1_remember 9 = .ok (.aload_n 0, 1) := by decide +kernel
theorem dX1_remember_10 : decode cX1_remember 10 = .ok (.aload_n 0, 1) := by decide +kernel
theorem dX1_remember_11 : decode cX1_remember 11 = .ok (.getfield 20, 3) := by decide +kernel
theorem dX1_remember_14 : decode cX1_remember 14 = .ok (.iconst 1, 1) := by decide +kernel
theorem dX1_remember_15 : decode cX1_remember 15 = .ok (.iadd, 1) := by decide +kernel
theorem dX1_remember_16 : decode cX1_remember 16 = .ok (.bipush 14, 2) := by decide +kernel
theorem dX1_remember_18 : decode cX1_remember 18 = .ok (.irem, 1) := by decide +kernel
theorem dX1_remember_19 : decode cX1_remember 19 = .ok (.putfield 20, 3) := by decide +kernel
theorem dX1_remember_22 : decode cX1_remember 22 = .ok (.aload_n 0, 1) := by decide +kernel
theorem dX1_remember_23 : decode cX1_remember 23 = .ok (.dup, 1) := by decide +kernel
theorem dX1_remember_24 : decode cX1_remember 24 = .ok (.getfield 16, 3) := by decide +kernel
theorem dX1_remember_27 : decode cX1_remember 27 = .ok (.iconst 1, 1) := by decide +kernel
theorem dX1_remember_28 : decode cX1_remember 28 = .ok (.isub, 1) := by decide +kernel
theorem dX1_remember_29 : decode cX1_remember 29 = .ok (.putfield 16, 3) := by decide +kernel
theorem dX1_remember_32 : decode cX1_remember 32 = .ok (.aload_n 0, 1) := by decide +kernel
theorem dX1_remember_33 : decode cX1_remember 33 = .ok (.getfield 11, 3) := by decide +kernel
theorem dX1_remember_36 : decode cX1_remember 36 = .ok (.aload_n 0, 1) := by decide +kernel
theorem dX1_remember_37 : decode cX1_remember 37 = .ok (.getfield 20, 3) := by decide +kernel
theorem dX1_remember_40 : decode cX1_remember 40 = .ok (.aload_n 0, 1) := by decide +kernel
theorem dX1_remember_41 : decode cX1_remember 41 = .ok (.getfield 16, 3) := by decide +kernel
theorem dX1_remember_44 : decode cX1_remember 44 = .ok (.iadd, 1) := by decide +kernel
theorem dX1_remember_45 : decode cX1_remember 45 = .ok (.bipush 14, 2) := by decide +kernel
theorem dX1_remember_47 : decode cX1_remember 47 = .ok (.irem, 1) := by decide +kernel
theorem dX1_remember_48 : decode cX1_remember 48 = .ok (.aaload, 1) := by decide +kernel
theorem dX1_remember_49 : decode cX1_remember 49 = .ok (.aload_n 1, 1) := by decide +kernel
theorem dX1_remember_50 : decode cX1_remember 50 = .ok (.invokevirtual 23, 3) := by decide +kernel
theorem dX1_remember_53 : decode cX1_remember 53 = .ok (.aload_n 0, 1) := by decide +kernel
theorem dX1_remember_54 : decode cX1_remember 54 = .ok (.dup, 1) := by decide +kernel
theorem dX1_remember_55 : decode cX1_remember 55 = .ok (.getfield 16, 3) := by decide +kernel
theorem dX1_remember_58 : decode cX1_remember 58 = .ok (.iconst 1, 1) := by decide +kernel
theorem dX1_remember_59 : decode cX1_remember 59 = .ok (.iadd, 1) := by decide +kernel
theorem dX1_remember_60 : decode cX1_remember 60 = .ok (.putfield 16, 3) := by decide +kernel
theorem dX1_remember_63 : decode cX1_remember 63 = .ok (.return_, 1) := by decide +kernel
set_option maxRecDepth 20000 in
theorem ggX1_takeBack_X3_copyFrom : GoodIn wsX1_takeBack wsX3_copyFrom := goodIn_r _ [8, 9, 10, 11, 12, 13, 14, 15, 16, 17, 18, 19, 20, 21, 22, 23, 24, 25, 26, 27, 28, 29, 30, 31, 32, 33, 34, 35, 36, 37, 41, 42, 43, 44, 45, 46, 47, 48, 49, 50, 51, 52, 53, 54, 55, 56, 57, 58, 59] (by decide +kernel) (by decide +kernel)
set_option maxRecDepth 20000 in
theorem gX1_takeBack_X3_copyFrom : GoodIn wsX1_takeBack (wsV RX1 23 RX3 yX3_copyFrom wsX3_copyFrom) := goodIn_app (goodIn_of _ (by decide +kernel)) ggX1_takeBack_X3_copyFrom
theorem dX1_takeBack_0 : decode cX1_takeBack 0 = .ok (.aload_n 0, 1) := by decide +kernel
theorem dX1_takeBack_1 : decode cX1_takeBack 1 = .ok (.getfield 16, 3) := by decide +kernel
theorem dX1_takeBack_4 : decode cX1_takeBack 4 = .ok (.ifCond .ne 5, 3) := by decide +kernel
theorem dX1_takeBack_7 : decode cX1_takeBack 7 = .ok (.iconst 0, 1) := by decide +kernel
theorem dX1_takeBack_8 : decode cX1_takeBack 8 = .ok (.ireturn, 1) := by decide +kernel
theorem dX1_takeBack_9 : decode cX1_takeBack 9 = .ok (.aload_n 0, 1) := by decide +kernel
theorem dX1_takeBack_10 : decode cX1_takeBack 10 = .ok (.dup, 1) := by decide +kernel
theorem dX1_takeBack_11 : decode cX1_takeBack 11 = .ok (.getfield 16, 3) := by decide +kernel
theorem dX1_takeBack_14 : decode cX1_takeBack 14 = .ok (.iconst 1, 1) := by decide +kernel
theorem dX1_takeBack_15 : decode cX1_takeBack 15 = .ok (.isub, 1) := by decide +kernel
theorem dX1_takeBack_16 : decode cX1_takeBack 16 = .ok (.putfield 16, 3) := by decide +kernel
theorem dX1_takeBack_19 : decode cX1_takeBack 19 = .ok (.aload_n 1, 1) := by decide +kernel
theorem dX1_takeBack_20 : decode cX1_takeBack 20 = .ok (.aload_n 0, 1) := by decide +kernel
theorem dX1_takeBack_21 : decode cX1_takeBack 21 = .ok (.getfield 11, 3) := by decide +kernel
theorem dX1_takeBack_24 : decode cX1_takeBack 24 = .ok (.aload_n 0, 1) := by decide +kernel
theorem dX1_takeBack_25 : decode cX1_takeBack 25 = .ok (.getfield 20, 3) := by decide +kernel
theorem dX1_takeBack_28 : decode cX1_takeBack 28 = .ok (.aload_n 0, 1) := by decide +kernel
theorem dX1_takeBack_29 : decode cX1_takeBack 29 = .ok (.getfield 16, 3) := by decide +kernel
theorem dX1_takeBack_32 : decode cX1_takeBack 32 = .ok (.iadd, 1) := by decide +kernel
theorem dX1_takeBack_33 : decode cX1_takeBack 33 = .ok (.bipush 14, 2) := by decide +kernel
theorem dX1_takeBack_35 : decode cX1_takeBack 35 = .ok (.irem, 1) := by decide +kernel
theorem dX1_takeBack_36 : decode cX1_takeBack 36 = .ok (.aaload, 1) := by decide +kernel
theorem dX1_takeBack_37 : decode cX1_takeBack 37 = .ok (.invokevirtual 23, 3) := by decide +kernel
theorem dX1_takeBack_40 : decode cX1_takeBack 40 = .ok (.iconst 1, 1) := by decide +kernel
theorem dX1_takeBack_41 : decode cX1_takeBack 41 = .ok (.ireturn, 1) := by decide +kernel
set_option maxRecDepth 20000 in
theorem ggX2_succeeds_X2_goOften : GoodIn wsX2_succeeds wsX2_goOften := goodIn_r _ [8, 9, 10, 11, 12, 13, 14, 15, 16, 17, 18, 19, 20, 21, 22, 23, 24, 25, 26, 27, 28, 29, 30, 31, 32, 33, 34, 35, 36, 37, 38, 39, 40, 41, 42, 43, 44, 45, 46, 47, 48, 49, 50, 51, 52, 53, 54, 55, 56, 57, 58, 59, 60, 61, 62, 63, 64, 65, 66, 67, 68, 69, 70, 71, 72, 73, 74, 75, 76, 77, 78, 139, 140, 141, 142, 143, 144, 145, 146, 147, 148, 149, 150, 151, 152, 153, 154, 155, 156, 157] (by decide +kernel) (by decide +kernel)
set_option maxRecDepth 20000 in
theorem gX2_succeeds_X2_goOften : GoodIn wsX2_succeeds (va_wsS RX2 7 yX2_goOften wsX2_goOften) := goodIn_app (goodIn_of _ (by decide +kernel)) ggX2_succeeds_X2_goOften
set_option maxRecDepth 20000 in
theorem ggX2_succeeds_X2_changeDesk : GoodIn wsX2_succeeds wsX2_changeDesk := goodIn_r _ [81, 82, 10, 83, 84, 85, 86, 87, 88, 89, 15, 90, 18, 91, 92, 93, 94, 95, 19, 17, 41, 42, 44, 40, 43, 45, 46, 47, 96, 97, 98, 28, 99, 70, 68, 100, 67, 71, 35, 69, 72, 101, 102, 103, 104, 105, 139, 140, 141, 142, 143, 144, 145, 146, 147, 148, 149, 150, 151, 152, 153, 154, 155, 156, 157] (by decide +kernel) (by decide +kernel)
set_option maxRecDepth 20000 in
theorem gX2_succeeds_X2_changeDesk : GoodIn wsX2_succeeds (va_wsS RX2 13 yX2_changeDesk wsX2_changeDesk) := goodIn_app (goodIn_of _ (by decide +kernel)) ggX2_succeeds_X2_changeDesk
set_option maxRecDepth 20000 in
theorem ggX2_succeeds_X2_changeBoth : GoodIn wsX2_succeeds wsX2_changeBoth := goodIn_r _ [108, 109, 10, 110, 111, 112, 113, 114, 115, 15, 116, 19, 92, 93, 94, 95, 18, 17, 41, 42, 44, 40, 43, 45, 46, 47, 96, 97, 98, 28, 99, 70, 68, 100, 67, 71, 35, 69, 72, 101, 102, 103, 104, 105, 139, 140, 141, 142, 143, 144, 145, 146, 147, 148, 149, 150, 151, 152, 153, 154, 155, 156, 157] (by decide +kernel) (by decide +kernel)
set_option maxRecDepth 20000 in
theorem gX2_succeeds_X2_changeBoth : GoodIn wsX2_succeeds (va_wsS RX2 16 yX2_changeBoth wsX2_changeBoth) := goodIn_app (goodIn_of _ (by decide +kernel)) ggX2_succeeds_X2_changeBoth
set_option maxRecDepth 20000 in
theorem ggX2_succeeds_X2_forgetAll : GoodIn wsX2_succeeds wsX2_forgetAll := goodIn_r _ [119, 120, 93, 94, 15, 95, 18, 19, 17, 41, 42, 44, 40, 43, 45, 46, 47, 96, 97, 98, 28, 99, 70, 68, 100, 67, 71, 35, 69, 72, 101, 102, 103, 104, 105, 139, 140, 141, 142, 143, 144, 145, 146, 147, 148, 149, 150, 151, 152, 153, 154, 155, 156, 157] (by decide +kernel) (by decide +kernel)
set_option maxRecDepth 20000 in
theorem gX2_succeeds_X2_forgetAll : GoodIn wsX2_succeeds (va_wsS RX2 20 yX2_forgetAll wsX2_forgetAll) := goodIn_app (goodIn_of _ (by decide +kernel)) ggX2_succeeds_X2_forgetAll
set_option maxRecDepth 20000 in
theorem ggX2_succeeds_X2_makeStrength : GoodIn wsX2_succeeds wsX2_makeStrength := goodIn_r _ [123, 2, 3, 82, 10, 83, 124, 125, 126, 15, 127, 19, 128, 129, 130, 131, 139, 140, 141, 142, 143, 144, 145, 146, 147, 148, 149, 150, 151, 152, 153, 154, 155, 156, 157] (by decide +kernel) (by decide +kernel)
set_option maxRecDepth 20000 in
theorem gX2_succeeds_X2_makeStrength : GoodIn wsX2_succeeds (va_wsS RX2 24 yX2_makeStrength wsX2_makeStrength) := goodIn_app (goodIn_of _ (by decide +kernel)) ggX2_succeeds_X2_makeStrength
set_option maxRecDepth 20000 in
theorem ggX2_succeeds_X2_isGuess : GoodIn wsX2_succeeds wsX2_isGuess := goodIn_r _ [134, 9, 10, 11, 135, 136, 137, 15, 138, 17, 20, 21, 22, 23, 18, 24, 19, 25, 26, 27, 28, 29, 30, 31, 32, 33, 34, 35, 139, 140, 141, 142, 143, 144, 145, 146, 147, 148, 149, 150, 151, 152, 153, 154, 155, 156, 157] (by decide +kernel) (by decide +kernel)
set_option maxRecDepth 20000 in
theorem gX2_succeeds_X2_isGuess : GoodIn wsX2_succeeds (va_wsS RX2 27 yX2_isGuess wsX2_isGuess) := goodIn_app (goodIn_of _ (by decide +kernel)) ggX2_succeeds_X2_isGuess
set_option maxRecDepth 20000 in
theorem ggX2_succeeds_X5_isDesk : GoodIn wsX2_succeeds wsX5_isDesk := goodIn_r _ [83] (by decide +kernel) (by decide +kernel)
set_option maxRecDepth 20000 in
theorem gX2_succeeds_X5_isDesk_n36 : GoodIn wsX2_succeeds (wsX5_isDesk) := ggX2_succeeds_X5_isDesk
set_option maxRecDepth 20000 in
theorem ggX2_succeeds_X3_isNote : GoodIn wsX2_succeeds wsX3_isNote := goodIn_r _ [127, 19, 139, 140, 141, 142, 143, 144, 145, 146, 147, 148, 149] (by decide +kernel) (by decide +kernel)
set_option maxRecDepth 20000 in
theorem gX2_succeeds_X3_isNote : GoodIn wsX2_succeeds (wsV RX2 42 RX3 yX3_isNote wsX3_isNote) := goodIn_app (goodIn_of _ (by decide +kernel)) ggX2_succeeds_X3_isNote
theorem dX2_succeeds_0 : decode cX2_succeeds 0 = .ok (.iload_n 1, 1) := by decide +kernel
theorem dX2_succeeds_1 : decode cX2_succeeds 1 = .ok (.sipush 1000, 3) := by decide +kernel
theorem dX2_succeeds_4 : decode cX2_succeeds 4 = .ok (.idiv, 1) := by decide +kernel
theorem dX2_succeeds_5 : decode cX2_succeeds 5 = .ok (.bipush 10, 2) := by decide +kernel
theorem dX2_succeeds_7 : decode cX2_succeeds 7 = .ok (.irem, 1) := by decide +kernel
theorem dX2_succeeds_8 : decode cX2_succeeds 8 = .ok (.istore_n 2, 1) := by decide +kernel
theorem dX2_succeeds_9 : decode cX2_succeeds 9 = .ok (.iload_n 1, 1) := by decide +kernel
theorem dX2_succeeds_10 : decode cX2_succeeds 10 = .ok (.bipush 100, 2) := by decide +kernel
theorem dX2_succeeds_12 : decode cX2_succeeds 12 = .ok (.idiv, 1) := by decide +kernel
theorem dX2_succeeds_13 : decode cX2_succeeds 13 = .ok (.bipush 10, 2) := by decide +kernel
theorem dX2_succeeds_15 : decode cX2_succeeds 15 = .ok (.irem, 1) := by decide +kernel
theorem dX2_succeeds_16 : decode cX2_succeeds 16 = .ok (.istore_n 3, 1) := by decide +kernel
theorem dX2_succeeds_17 : decode cX2_succeeds 17 = .ok (.iload_n 1, 1) := by decide +kernel
theorem dX2_succeeds_18 : decode cX2_succeeds 18 = .ok (.bipush 10, 2) := by decide +kernel
theorem dX2_succeeds_20 : decode cX2_succeeds 20 = .ok (.idiv, 1) := by decide +kernel
theorem dX2_succeeds_21 : decode cX2_succeeds 21 = .ok (.bipush 10, 2) := by decide +kernel
theorem dX2_succeeds_23 : decode cX2_succeeds 23 = .ok (.irem, 1) := by decide +kernel
theorem dX2_succeeds_24 : decode cX2_succeeds 24 = .ok (.istore 4, 2) := by decide +kernel
theorem dX2_succeeds_26 : decode cX2_succeeds 26 = .ok (.iload_n 1, 1) := by decide +kernel
theorem dX2_succeeds_27 : decode cX2_succeeds 27 = .ok (.bipush 10, 2) := by decide +kernel
theorem dX2_succeeds_29 : decode cX2_succeeds 29 = .ok (.irem, 1) := by decide +kernel
theorem dX2_succeeds_30 : decode cX2_succeeds 30 = .ok (.istore 5, 2) := by decide +kernel
theorem dX2_succeeds_32 : decode cX2_succeeds 32 = .ok (.bipush 10, 2) := by decide +kernel
theorem dX2_succeeds_34 : decode cX2_succeeds 34 = .ok (.iload_n 2, 1) := by decide +kernel
theorem dX2_succeeds_35 : decode cX2_succeeds 35 = .ok (.imul, 1) := by decide +kernel
theorem dX2_succeeds_36 : decode cX2_succeeds 36 = .ok (.iload_n 3, 1) := by decide +kernel
theorem dX2_succeeds_37 : decode cX2_succeeds 37 = .ok (.iadd, 1) := by decide +kernel
theorem dX2_succeeds_38 : decode cX2_succeeds 38 = .ok (.istore 6, 2) := by decide +kernel
theorem dX2_succeeds_40 : decode cX2_succeeds 40 = .ok (.bipush 10, 2) := by decide +kernel
theorem dX2_succeeds_42 : decode cX2_succeeds 42 = .ok (.iload_n 3, 1) := by decide +kernel
theorem dX2_succeeds_43 : decode cX2_succeeds 43 = .ok (.imul, 1) := by decide +kernel
theorem dX2_succeeds_44 : decode cX2_succeeds 44 = .ok (.iload 4, 2) := by decide +kernel
theorem dX2_succeeds_46 : decode cX2_succeeds 46 = .ok (.iadd, 1) := by decide +kernel
theorem dX2_succeeds_47 : decode cX2_succeeds 47 = .ok (.istore 7, 2) := by decide +kernel
theorem dX2_succeeds_49 : decode cX2_succeeds 49 = .ok (.iload_n 1, 1) := by decide +kernel
theorem dX2_succeeds_50 : decode cX2_succeeds 50 = .ok (.sipush 10000, 3) := by decide +kernel
theorem dX2_succeeds_53 : decode cX2_succeeds 53 = .ok (.idiv, 1) := by decide +kernel
theorem dX2_succeeds_54 : decode cX2_succeeds 54 = .ok (.tableswitch 244 1 9 #[50, 61, 83, 108, 129, 139, 161, 183, 222], 50) := by decide +kernel
theorem dX2_succeeds_104 : decode cX2_succeeds 104 = .ok (.aload_n 0, 1) := by decide +kernel
theorem dX2_succeeds_105 : decode cX2_succeeds 105 = .ok (.iload 6, 2) := by decide +kernel
theorem dX2_succeeds_107 : decode cX2_succeeds 107 = .ok (.iload 4, 2) := by decide +kernel
theorem dX2_succeeds_109 : decode cX2_succeeds 109 = .ok (.iload 5, 2) := by decide +kernel
theorem dX2_succeeds_111 : decode cX2_succeeds 111 = .ok (.invokestatic 7, 3) := by decide +kernel
theorem dX2_succeeds_114 : decode cX2_succeeds 114 = .ok (.ireturn, 1) := by decide +kernel
theorem dX2_succeeds_115 : decode cX2_succeeds 115 = .ok (.iload 5, 2) := by decide +kernel
theorem dX2_succeeds_117 : decode cX2_succeeds 117 = .ok (.ifCond .ne 18, 3) := by decide +kernel
theorem dX2_succeeds_120 : decode cX2_succeeds 120 = .ok (.aload_n 0, 1) := by decide +kernel
theorem dX2_succeeds_121 : decode cX2_succeeds 121 = .ok (.iload_n 2, 1) := by decide +kernel
theorem dX2_succeeds_122 : decode cX2_succeeds 122 = .ok (.iload_n 3, 1) := by decide +kernel
theorem dX2_succeeds_123 : decode cX2_succeeds 123 = .ok (.iload 4, 2) := by decide +kernel
theorem dX2_succeeds_125 : decode cX2_succeeds 125 = .ok (.invokestatic 13, 3) := by decide +kernel
theorem dX2_succeeds_128 : decode cX2_succeeds 128 = .ok (.ifCond .eq 7, 3) := by decide +kernel
theorem dX2_succeeds_131 : decode cX2_succeeds 131 = .ok (.iconst 1, 1) := by decide +kernel
theorem dX2_succeeds_132 : decode cX2_succeeds 132 = .ok (.goto 4, 3) := by decide +kernel
theorem dX2_succeeds_135 : decode cX2_succeeds 135 = .ok (.iconst 0, 1) := by decide +kernel
theorem dX2_succeeds_136 : decode cX2_succeeds 136 = .ok (.ireturn, 1) := by decide +kernel
theorem dX2_succeeds_137 : decode cX2_succeeds 137 = .ok (.iload 4, 2) := by decide +kernel
theorem dX2_succeeds_139 : decode cX2_succeeds 139 = .ok (.ifCond .ne 21, 3) := by decide +kernel
theorem dX2_succeeds_142 : decode cX2_succeeds 142 = .ok (.iload 5, 2) := by decide +kernel
theorem dX2_succeeds_144 : decode cX2_succeeds 144 = .ok (.ifCond .ne 16, 3) := by decide +kernel
theorem dX2_succeeds_147 : decode cX2_succeeds 147 = .ok (.aload_n 0, 1) := by decide +kernel
theorem dX2_succeeds_148 : decode cX2_succeeds 148 = .ok (.iload_n 2, 1) := by decide +kernel
theorem dX2_succeeds_149 : decode cX2_succeeds 149 = .ok (.iload_n 3, 1) := by decide +kernel
theorem dX2_succeeds_150 : decode cX2_succeeds 150 = .ok (.invokestatic 16, 3) := by decide +kernel
theorem dX2_succeeds_153 : decode cX2_succeeds 153 = .ok (.ifCond .eq 7, 3) := by decide +kernel
theorem dX2_succeeds_156 : decode cX2_succeeds 156 = .ok (.iconst 1, 1) := by decide +kernel
theorem dX2_succeeds_157 : decode cX2_succeeds 157 = .ok (.goto 4, 3) := by decide +kernel
theorem dX2_succeeds_160 : decode cX2_succeeds 160 = .ok (.iconst 0, 1) := by decide +kernel
theorem dX2_succeeds_161 : decode cX2_succeeds 161 = .ok (.ireturn, 1) := by decide +kernel
theorem dX2_succeeds_162 : decode cX2_succeeds 162 = .ok (.iload_n 1, 1) := by decide +kernel
theorem dX2_succeeds_163 : decode cX2_succeeds 163 = .ok (.sipush 10000, 3) := by decide +kernel
theorem dX2_succeeds_166 : decode cX2_succeeds 166 = .ok (.irem, 1) := by decide +kernel
theorem dX2_succeeds_167 : decode cX2_succeeds 167 = .ok (.ifCond .ne 14, 3) := by decide +kernel
theorem dX2_succeeds_170 : decode cX2_succeeds 170 = .ok (.aload_n 0, 1) := by decide +kernel
theorem dX2_succeeds_171 : decode cX2_succeeds 171 = .ok (.invokestatic 20, 3) := by decide +kernel
theorem dX2_succeeds_174 : decode cX2_succeeds 174 = .ok (.ifCond .eq 7, 3) := by decide +kernel
theorem dX2_succeeds_177 : decode cX2_succeeds 177 = .ok (.iconst 1, 1) := by decide +kernel
theorem dX2_succeeds_178 : decode cX2_succeeds 178 = .ok (.goto 4, 3) := by decide +kernel
theorem dX2_succeeds_181 : decode cX2_succeeds 181 = .ok (.iconst 0, 1) := by decide +kernel
theorem dX2_succeeds_182 : decode cX2_succeeds 182 = .ok (.ireturn, 1) := by decide +kernel
theorem dX2_succeeds_183 : decode cX2_succeeds 183 = .ok (.aload_n 0, 1) := by decide +kernel
theorem dX2_succeeds_184 : decode cX2_succeeds 184 = .ok (.iload_n 2, 1) := by decide +kernel
theorem dX2_succeeds_185 : decode cX2_succeeds 185 = .ok (.iload 7, 2) := by decide +kernel
theorem dX2_succeeds_187 : decode cX2_succeeds 187 = .ok (.iload 5, 2) := by decide +kernel
theorem dX2_succeeds_189 : decode cX2_succeeds 189 = .ok (.invokestatic 24, 3) := by decide +kernel
theorem dX2_succeeds_192 : decode cX2_succeeds 192 = .ok (.ireturn, 1) := by decide +kernel
theorem dX2_succeeds_193 : decode cX2_succeeds 193 = .ok (.iload 5, 2) := by decide +kernel
theorem dX2_succeeds_195 : decode cX2_succeeds 195 = .ok (.ifCond .ne 18, 3) := by decide +kernel
theorem dX2_succeeds_198 : decode cX2_succeeds 198 = .ok (.aload_n 0, 1) := by decide +kernel
theorem dX2_succeeds_199 : decode cX2_succeeds 199 = .ok (.iload 6, 2) := by decide +kernel
theorem dX2_succeeds_201 : decode cX2_succeeds 201 = .ok (.iload 4, 2) := by decide +kernel
theorem dX2_succeeds_203 : decode cX2_succeeds 203 = .ok (.invokestatic 27, 3) := by decide +kernel
theorem dX2_succeeds_206 : decode cX2_succeeds 206 = .ok (.ifCond .eq 7, 3) := by decide +kernel
theorem dX2_succeeds_209 : decode cX2_succeeds 209 = .ok (.iconst 1, 1) := by decide +kernel
theorem dX2_succeeds_210 : decode cX2_succeeds 210 = .ok (.goto 4, 3) := by decide +kernel
theorem dX2_succeeds_213 : decode cX2_succeeds 213 = .ok (.iconst 0, 1) := by decide +kernel
theorem dX2_succeeds_214 : decode cX2_succeeds 214 = .ok (.ireturn, 1) := by decide +kernel
theorem dX2_succeeds_215 : decode cX2_succeeds 215 = .ok (.iload_n 2, 1) := by decide +kernel
theorem dX2_succeeds_216 : decode cX2_succeeds 216 = .ok (.ifCond .ne 19, 3) := by decide +kernel
theorem dX2_succeeds_219 : decode cX2_succeeds 219 = .ok (.aload_n 0, 1) := by decide +kernel
theorem dX2_succeeds_220 : decode cX2_succeeds 220 = .ok (.getfield 30, 3) := by decide +kernel
theorem dX2_succeeds_223 : decode cX2_succeeds 223 = .ok (.iload_n 1, 1) := by decide +kernel
theorem dX2_succeeds_224 : decode cX2_succeeds 224 = .ok (.sipush 1000, 3) := by decide +kernel
theorem dX2_succeeds_227 : decode cX2_succeeds 227 = .ok (.irem, 1) := by decide +kernel
theorem dX2_succeeds_228 : decode cX2_succeeds 228 = .ok (.if_icmp .lt 7, 3) := by decide +kernel
theorem dX2_succeeds_231 : decode cX2_succeeds 231 = .ok (.iconst 1, 1) := by decide +kernel
theorem dX2_succeeds_232 : decode cX2_succeeds 232 = .ok (.goto 4, 3) := by decide +kernel
theorem dX2_succeeds_235 : decode cX2_succeeds 235 = .ok (.iconst 0, 1) := by decide +kernel
theorem dX2_succeeds_236 : decode cX2_succeeds 236 = .ok (.ireturn, 1) := by decide +kernel
theorem dX2_succeeds_237 : decode cX2_succeeds 237 = .ok (.iload_n 2, 1) := by decide +kernel
theorem dX2_succeeds_238 : decode cX2_succeeds 238 = .ok (.invokestatic 36, 3) := by decide +kernel
theorem dX2_succeeds_241 : decode cX2_succeeds 241 = .ok (.ifCond .eq 33, 3) := by decide +kernel
theorem dX2_succeeds_244 : decode cX2_succeeds 244 = .ok (.aload_n 0, 1) := by decide +kernel
theorem dX2_succeeds_245 : decode cX2_succeeds 245 = .ok (.iload 7, 2) := by decide +kernel
theorem dX2_succeeds_247 : decode cX2_succeeds 247 = .ok (.invokevirtual 42, 3) := by decide +kernel
theorem dX2_succeeds_250 : decode cX2_succeeds 250 = .ok (.ifCond .eq 24, 3) := by decide +kernel
theorem dX2_succeeds_253 : decode cX2_succeeds 253 = .ok (.aload_n 0, 1) := by decide +kernel
theorem dX2_succeeds_254 : decode cX2_succeeds 254 = .ok (.getfield 45, 3) := by decide +kernel
theorem dX2_succeeds_257 : decode cX2_succeeds 257 = .ok (.iload_n 2, 1) := by decide +kernel
theorem dX2_succeeds_258 : decode cX2_succeeds 258 = .ok (.aaload, 1) := by decide +kernel
theorem dX2_succeeds_259 : decode cX2_succeeds 259 = .ok (.getfield 49, 3) := by decide +kernel
theorem dX2_succeeds_262 : decode cX2_succeeds 262 = .ok (.iload 7, 2) := by decide +kernel
theorem dX2_succeeds_264 : decode cX2_succeeds 264 = .ok (.iaload, 1) := by decide +kernel
theorem dX2_succeeds_265 : decode cX2_succeeds 265 = .ok (.iload 5, 2) := by decide +kernel
theorem dX2_succeeds_267 : decode cX2_succeeds 267 = .ok (.if_icmp .lt 7, 3) := by decide +kernel
theorem dX2_succeeds_270 : decode cX2_succeeds 270 = .ok (.iconst 1, 1) := by decide +kernel
theorem dX2_succeeds_271 : decode cX2_succeeds 271 = .ok (.goto 4, 3) := by decide +kernel
theorem dX2_succeeds_274 : decode cX2_succeeds 274 = .ok (.iconst 0, 1) := by decide +kernel
theorem dX2_succeeds_275 : decode cX2_succeeds 275 = .ok (.ireturn, 1) := by decide +kernel
theorem dX2_succeeds_276 : decode cX2_succeeds 276 = .ok (.iload 6, 2) := by decide +kernel
theorem dX2_succeeds_278 : decode cX2_succeeds 278 = .ok (.ifCond .ne 18, 3) := by decide +kernel
theorem dX2_succeeds_281 : decode cX2_succeeds 281 = .ok (.aload_n 0, 1) := by decide +kernel
theorem dX2_succeeds_282 : decode cX2_succeeds 282 = .ok (.getfield 55, 3) := by decide +kernel
theorem dX2_succeeds_285 : decode cX2_succeeds 285 = .ok (.iload_n 1, 1) := by decide +kernel
theorem dX2_succeeds_286 : decode cX2_succeeds 286 = .ok (.bipush 100, 2) := by decide +kernel
theorem dX2_succeeds_288 : decode cX2_succeeds 288 = .ok (.irem, 1) := by decide +kernel
theorem dX2_succeeds_289 : decode cX2_succeeds 289 = .ok (.if_icmp .lt 7, 3) := by decide +kernel
theorem dX2_succeeds_292 : decode cX2_succeeds 292 = .ok (.iconst 1, 1) := by decide +kernel
theorem dX2_succeeds_293 : decode cX2_succeeds 293 = .ok (.goto 4, 3) := by decide +kernel
theorem dX2_succeeds_296 : decode cX2_succeeds 296 = .ok (.iconst 0, 1) := by decide +kernel
theorem dX2_succeeds_297 : decode cX2_succeeds 297 = .ok (.ireturn, 1) := by decide +kernel
theorem dX2_succeeds_298 : decode cX2_succeeds 298 = .ok (.iconst 0, 1) := by decide +kernel
theorem dX2_succeeds_299 : decode cX2_succeeds 299 = .ok (.ireturn, 1) := by decide +kernel
set_option maxRecDepth 20000 in
theorem ggX2_goOften_X5_isPlace : GoodIn wsX2_goOften wsX5_isPlace := goodIn_r _ [3] (by decide +kernel) (by decide +kernel)
set_option maxRecDepth 20000 in
theorem gX2_goOften_X5_isPlace_n58 : GoodIn wsX2_goOften (wsX5_isPlace) := ggX2_goOften_X5_isPlace
set_option maxRecDepth 20000 in
theorem ggX2_goOften_X3_go : GoodIn wsX2_goOften wsX3_go := goodIn_r _ [8, 9, 10, 11, 12, 13, 14, 7, 15, 16, 17, 18, 19, 20, 21, 22, 23, 24, 25, 26, 27, 28, 29, 30, 31, 32, 33, 34, 35, 36, 37, 38, 39, 40, 41, 42, 43, 44, 45, 46, 47, 48, 49, 50, 51, 52, 53, 54, 55, 56, 57, 58, 59, 60, 61, 62, 63, 64, 65, 66, 67, 68, 69, 70, 71, 72, 73, 74, 75, 76, 77, 78, 79, 80, 81, 82, 83, 84, 85, 86, 87, 88, 89] (by decide +kernel) (by decide +kernel)
set_option maxRecDepth 20000 in
theorem gX2_goOften_X3_go : GoodIn wsX2_goOften (wsV RX2 61 RX3 yX3_go wsX3_go) := goodIn_app (goodIn_of _ (by decide +kernel)) ggX2_goOften_X3_go
theorem dX2_goOften_0 : decode cX2_goOften 0 = .ok (.iload_n 1, 1) := by decide +kernel
theorem dX2_goOften_1 : decode cX2_goOften 1 = .ok (.invokestatic 58, 3) := by decide +kernel
theorem dX2_goOften_4 : decode cX2_goOften 4 = .ok (.ifCond .eq 13, 3) := by decide +kernel
theorem dX2_goOften_7 : decode cX2_goOften 7 = .ok (.iload_n 2, 1) := by decide +kernel
theorem dX2_goOften_8 : decode cX2_goOften 8 = .ok (.iconst 1, 1) := by decide +kernel
theorem dX2_goOften_9 : decode cX2_goOften 9 = .ok (.if_icmp .gt 8, 3) := by decide +kernel
theorem dX2_goOften_12 : decode cX2_goOften 12 = .ok (.iload_n 3, 1) := by decide +kernel
theorem dX2_goOften_13 : decode cX2_goOften 13 = .ok (.iconst 1, 1) := by decide +kernel
theorem dX2_goOften_14 : decode cX2_goOften 14 = .ok (.if_icmp .ge 5, 3) := by decide +kernel
theorem dX2_goOften_17 : decode cX2_goOften 17 = .ok (.iconst 0, 1) := by decide +kernel
theorem dX2_goOften_18 : decode cX2_goOften 18 = .ok (.ireturn, 1) := by decide +kernel
theorem dX2_goOften_19 : decode cX2_goOften 19 = .ok (.iconst 0, 1) := by decide +kernel
theorem dX2_goOften_20 : decode cX2_goOften 20 = .ok (.istore 4, 2) := by decide +kernel
theorem dX2_goOften_22 : decode cX2_goOften 22 = .ok (.iload 4, 2) := by decide +kernel
theorem dX2_goOften_24 : decode cX2_goOften 24 = .ok (.iload_n 3, 1) := by decide +kernel
theorem dX2_goOften_25 : decode cX2_goOften 25 = .ok (.if_icmp .ge 25, 3) := by decide +kernel
theorem dX2_goOften_28 : decode cX2_goOften 28 = .ok (.aload_n 0, 1) := by decide +kernel
theorem dX2_goOften_29 : decode cX2_goOften 29 = .ok (.iload_n 1, 1) := by decide +kernel
theorem dX2_goOften_30 : decode cX2_goOften 30 = .ok (.iload_n 2, 1) := by decide +kernel
theorem dX2_goOften_31 : decode cX2_goOften 31 = .ok (.iconst 1, 1) := by decide +kernel
theorem dX2_goOften_32 : decode cX2_goOften 32 = .ok (.if_icmp .ne 7, 3) := by decide +kernel
theorem dX2_goOften_35 : decode cX2_goOften 35 = .ok (.iconst 1, 1) := by decide +kernel
theorem dX2_goOften_36 : decode cX2_goOften 36 = .ok (.goto 4, 3) := by decide +kernel
theorem dX2_goOften_39 : decode cX2_goOften 39 = .ok (.iconst 0, 1) := by decide +kernel
theorem dX2_goOften_40 : decode cX2_goOften 40 = .ok (.invokevirtual 61, 3) := by decide +kernel
theorem dX2_goOften_43 : decode cX2_goOften 43 = .ok (.pop, 1) := by decide +kernel
theorem dX2_goOften_44 : decode cX2_goOften 44 = .ok (.iinc 4 1, 3) := by decide +kernel
theorem dX2_goOften_47 : decode cX2_goOften 47 = .ok (.goto (-25), 3) := by decide +kernel
theorem dX2_goOften_50 : decode cX2_goOften 50 = .ok (.iconst 1, 1) := by decide +kernel
theorem dX2_goOften_51 : decode cX2_goOften 51 = .ok (.ireturn, 1) := by decide +kernel
set_option maxRecDepth 20000 in
theorem ggX2_changeDesk_X5_isDesk : GoodIn wsX2_changeDesk wsX5_isDesk := goodIn_r _ [3] (by decide +kernel) (by decide +kernel)
set_option maxRecDepth 20000 in
theorem gX2_changeDesk_X5_isDesk_n36 : GoodIn wsX2_changeDesk (wsX5_isDesk) := ggX2_changeDesk_X5_isDesk
set_option maxRecDepth 20000 in
theorem ggX2_changeDesk_X5_isDeskSetting : GoodIn wsX2_changeDesk wsX5_isDeskSetting := goodIn_r _ [5, 6] (by decide +kernel) (by decide +kernel)
set_option maxRecDepth 20000 in
theorem gX2_changeDesk_X5_isDeskSetting_n65 : GoodIn wsX2_changeDesk (wsX5_isDeskSetting) := ggX2_changeDesk_X5_isDeskSetting
set_option maxRecDepth 20000 in
theorem ggX2_changeDesk_X3_changeDesk : GoodIn wsX2_changeDesk wsX3_changeDesk := goodIn_r _ [11, 12, 13, 14, 15, 16, 10, 17, 18, 19, 20, 21, 22, 23, 24, 25, 26, 27, 28, 29, 30, 31, 32, 33, 34, 35, 36, 37, 38, 39, 40, 41, 42, 43, 44, 45, 46, 47, 48, 49, 50, 51, 52, 53, 54, 55, 56, 57, 58, 59, 60, 61, 62, 63, 64] (by decide +kernel) (by decide +kernel)
set_option maxRecDepth 20000 in
theorem gX2_changeDesk_X3_changeDesk : GoodIn wsX2_changeDesk (wsV RX2 69 RX3 yX3_changeDesk wsX3_changeDesk) := goodIn_app (goodIn_of _ (by decide +kernel)) ggX2_changeDesk_X3_changeDesk
theorem dX2_changeDesk_0 : decode cX2_changeDesk 0 = .ok (.iload_n 1, 1) := by decide +kernel
theorem dX2_changeDesk_1 : decode cX2_changeDesk 1 = .ok (.invokestatic 36, 3) := by decide +kernel
theorem dX2_changeDesk_4 : decode cX2_changeDesk 4 = .ok (.ifCond .eq 11, 3) := by decide +kernel
theorem dX2_changeDesk_7 : decode cX2_changeDesk 7 = .ok (.iload_n 2, 1) := by decide +kernel
theorem dX2_changeDesk_8 : decode cX2_changeDesk 8 = .ok (.iload_n 3, 1) := by decide +kernel
theorem dX2_changeDesk_9 : decode cX2_changeDesk 9 = .ok (.invokestatic 65, 3) := by decide +kernel
theorem dX2_changeDesk_12 : decode cX2_changeDesk 12 = .ok (.ifCond .ne 5, 3) := by decide +kernel
theorem dX2_changeDesk_15 : decode cX2_changeDesk 15 = .ok (.iconst 0, 1) := by decide +kernel
theorem dX2_changeDesk_16 : decode cX2_changeDesk 16 = .ok (.ireturn, 1) := by decide +kernel
theorem dX2_changeDesk_17 : decode cX2_changeDesk 17 = .ok (.aload_n 0, 1) := by decide +kernel
theorem dX2_changeDesk_18 : decode cX2_changeDesk 18 = .ok (.iload_n 1, 1) := by decide +kernel
theorem dX2_changeDesk_19 : decode cX2_changeDesk 19 = .ok (.iload_n 2, 1) := by decide +kernel
theorem dX2_changeDesk_20 : decode cX2_changeDesk 20 = .ok (.iload_n 3, 1) := by decide +kernel
theorem dX2_changeDesk_21 : decode cX2_changeDesk 21 = .ok (.invokevirtual 69, 3) := by decide +kernel
theorem dX2_changeDesk_24 : decode cX2_changeDesk 24 = .ok (.iconst 1, 1) := by decide +kernel
theorem dX2_changeDesk_25 : decode cX2_changeDesk 25 = .ok (.ireturn, 1) := by decide +kernel
set_option maxRecDepth 20000 in
theorem ggX2_changeBoth_X5_isCommonSetting : GoodIn wsX2_changeBoth wsX5_isCommonSetting := goodIn_r _ [3, 4, 5] (by decide +kernel) (by decide +kernel)
set_option maxRecDepth 20000 in
theorem gX2_changeBoth_X5_isCommonSetting_n72 : GoodIn wsX2_changeBoth (wsX5_isCommonSetting) := ggX2_changeBoth_X5_isCommonSetting
set_option maxRecDepth 20000 in
theorem ggX2_changeBoth_X3_changeBoth : GoodIn wsX2_changeBoth wsX3_changeBoth := goodIn_r _ [10, 11, 12, 13, 14, 9, 15, 16, 17, 18, 19, 20, 21, 22, 23, 24, 25, 26, 27, 28, 29, 30, 31, 32, 33, 34, 35, 36, 37, 38, 39, 40, 41, 42, 43, 44, 45, 46, 47, 48, 49, 50, 51, 52, 53, 54, 55, 56, 57, 58, 59, 60, 61, 62] (by decide +kernel) (by decide +kernel)
set_option maxRecDepth 20000 in
theorem gX2_changeBoth_X3_changeBoth : GoodIn wsX2_changeBoth (wsV RX2 75 RX3 yX3_changeBoth wsX3_changeBoth) := goodIn_app (goodIn_of _ (by decide +kernel)) ggX2_changeBoth_X3_changeBoth
theorem dX2_changeBoth_0 : decode cX2_changeBoth 0 = .ok (.iload_n 1, 1) := by decide +kernel
theorem dX2_changeBoth_1 : decode cX2_changeBoth 1 = .ok (.iload_n 2, 1) := by decide +kernel
theorem dX2_changeBoth_2 : decode cX2_changeBoth 2 = .ok (.invokestatic 72, 3) := by decide +kernel
theorem dX2_changeBoth_5 : decode cX2_changeBoth 5 = .ok (.ifCond .ne 5, 3) := by decide +kernel
theorem dX2_changeBoth_8 : decode cX2_changeBoth 8 = .ok (.iconst 0, 1) := by decide +kernel
theorem dX2_changeBoth_9 : decode cX2_changeBoth 9 = .ok (.ireturn, 1) := by decide +kernel
theorem dX2_changeBoth_10 : decode cX2_changeBoth 10 = .ok (.aload_n 0, 1) := by decide +kernel
theorem dX2_changeBoth_11 : decode cX2_changeBoth 11 = .ok (.iload_n 1, 1) := by decide +kernel
theorem dX2_changeBoth_12 : decode cX2_changeBoth 12 = .ok (.iload_n 2, 1) := by decide +kernel
theorem dX2_changeBoth_13 : decode cX2_changeBoth 13 = .ok (.invokevirtual 75, 3) := by decide +kernel
theorem dX2_changeBoth_16 : decode cX2_changeBoth 16 = .ok (.iconst 1, 1) := by decide +kernel
theorem dX2_changeBoth_17 : decode cX2_changeBoth 17 = .ok (.ireturn, 1) := by decide +kernel
set_option maxRecDepth 20000 in
theorem ggX2_forgetAll_X3_beginAnew : GoodIn wsX2_forgetAll wsX3_beginAnew := goodIn_r _ [5, 6, 7, 8, 9, 10, 11, 12, 13, 14, 15, 16, 17, 18, 19, 20, 21, 22, 23, 24, 25, 26, 27, 28, 29, 30, 31, 32, 33, 34, 35, 36, 37, 38, 39, 40, 41, 42, 43, 44, 45, 46, 47, 48, 49, 50, 51, 52, 53] (by decide +kernel) (by decide +kernel)
set_option maxRecDepth 20000 in
theorem gX2_forgetAll_X3_beginAnew : GoodIn wsX2_forgetAll (wsV RX2 78 RX3 yX3_beginAnew wsX3_beginAnew) := goodIn_app (goodIn_of _ (by decide +kernel)) ggX2_forgetAll_X3_beginAnew
theorem dX2_forgetAll_0 : decode cX2_forgetAll 0 = .ok (.aload_n 0, 1) := by decide +kernel
theorem dX2_forgetAll_1 : decode cX2_forgetAll 1 = .ok (.invokevirtual 78, 3) := by decide +kernel
theorem dX2_forgetAll_4 : decode cX2_forgetAll 4 = .ok (.iconst 1, 1) := by decide +kernel
theorem dX2_forgetAll_5 : decode cX2_forgetAll 5 = .ok (.ireturn, 1) := by decide +kernel
set_option maxRecDepth 20000 in
theorem ggX2_makeStrength_X5_isDesk : GoodIn wsX2_makeStrength wsX5_isDesk := goodIn_r _ [5] (by decide +kernel) (by decide +kernel)
set_option maxRecDepth 20000 in
theorem gX2_makeStrength_X5_isDesk_n36 : GoodIn wsX2_makeStrength (wsX5_isDesk) := ggX2_makeStrength_X5_isDesk
set_option maxRecDepth 20000 in
theorem ggX2_makeStrength_X3_isNote : GoodIn wsX2_makeStrength wsX3_isNote := goodIn_r _ [10, 11, 16, 17, 18, 19, 20, 21, 22, 23, 24, 25, 26] (by decide +kernel) (by decide +kernel)
set_option maxRecDepth 20000 in
theorem gX2_makeStrength_X3_isNote : GoodIn wsX2_makeStrength (wsV RX2 42 RX3 yX3_isNote wsX3_isNote) := goodIn_app (goodIn_of _ (by decide +kernel)) ggX2_makeStrength_X3_isNote
set_option maxRecDepth 20000 in
theorem ggX2_makeStrength_X3_isStrength : GoodIn wsX2_makeStrength wsX3_isStrength := goodIn_r _ [15, 11, 16, 17, 18, 19, 20, 21, 22, 23, 24, 25, 26] (by decide +kernel) (by decide +kernel)
set_option maxRecDepth 20000 in
theorem gX2_makeStrength_X3_isStrength : GoodIn wsX2_makeStrength (wsV RX2 81 RX3 yX3_isStrength wsX3_isStrength) := goodIn_app (goodIn_of _ (by decide +kernel)) ggX2_makeStrength_X3_isStrength
theorem dX2_makeStrength_0 : decode cX2_makeStrength 0 = .ok (.iload_n 1, 1) := by decide +kernel
theorem dX2_makeStrength_1 : decode cX2_makeStrength 1 = .ok (.invokestatic 36, 3) := by decide +kernel
theorem dX2_makeStrength_4 : decode cX2_makeStrength 4 = .ok (.ifCond .eq 19, 3) := by decide +kernel
theorem dX2_makeStrength_7 : decode cX2_makeStrength 7 = .ok (.aload_n 0, 1) := by decide +kernel
theorem dX2_makeStrength_8 : decode cX2_makeStrength 8 = .ok (.iload_n 2, 1) := by decide +kernel
theorem dX2_makeStrength_9 : decode cX2_makeStrength 9 = .ok (.invokevirtual 42, 3) := by decide +kernel
theorem dX2_makeStrength_12 : decode cX2_makeStrength 12 = .ok (.ifCond .eq 11, 3) := by decide +kernel
theorem dX2_makeStrength_15 : decode cX2_makeStrength 15 = .ok (.aload_n 0, 1) := by decide +kernel
theorem dX2_makeStrength_16 : decode cX2_makeStrength 16 = .ok (.iload_n 3, 1) := by decide +kernel
theorem dX2_makeStrength_17 : decode cX2_makeStrength 17 = .ok (.invokevirtual 81, 3) := by decide +kernel
theorem dX2_makeStrength_20 : decode cX2_makeStrength 20 = .ok (.ifCond .ne 5, 3) := by decide +kernel
theorem dX2_makeStrength_23 : decode cX2_makeStrength 23 = .ok (.iconst 0, 1) := by decide +kernel
theorem dX2_makeStrength_24 : decode cX2_makeStrength 24 = .ok (.ireturn, 1) := by decide +kernel
theorem dX2_makeStrength_25 : decode cX2_makeStrength 25 = .ok (.aload_n 0, 1) := by decide +kernel
theorem dX2_makeStrength_26 : decode cX2_makeStrength 26 = .ok (.getfield 45, 3) := by decide +kernel
theorem dX2_makeStrength_29 : decode cX2_makeStrength 29 = .ok (.iload_n 1, 1) := by decide +kernel
theorem dX2_makeStrength_30 : decode cX2_makeStrength 30 = .ok (.aaload, 1) := by decide +kernel
theorem dX2_makeStrength_31 : decode cX2_makeStrength 31 = .ok (.getfield 49, 3) := by decide +kernel
theorem dX2_makeStrength_34 : decode cX2_makeStrength 34 = .ok (.iload_n 2, 1) := by decide +kernel
theorem dX2_makeStrength_35 : decode cX2_makeStrength 35 = .ok (.iload_n 3, 1) := by decide +kernel
theorem dX2_makeStrength_36 : decode cX2_makeStrength 36 = .ok (.iastore, 1) := by decide +kernel
theorem dX2_makeStrength_37 : decode cX2_makeStrength 37 = .ok (.iconst 1, 1) := by decide +kernel
theorem dX2_makeStrength_38 : decode cX2_makeStrength 38 = .ok (.ireturn, 1) := by decide +kernel
set_option maxRecDepth 20000 in
theorem ggX2_isGuess_X5_isPlace : GoodIn wsX2_isGuess wsX5_isPlace := goodIn_r _ [3] (by decide +kernel) (by decide +kernel)
set_option maxRecDepth 20000 in
theorem gX2_isGuess_X5_isPlace_n58 : GoodIn wsX2_isGuess (wsX5_isPlace) := ggX2_isGuess_X5_isPlace
set_option maxRecDepth 20000 in
theorem ggX2_isGuess_X3_guessFor : GoodIn wsX2_isGuess wsX3_guessFor := goodIn_r _ [8, 9, 10, 11, 12, 7, 13, 14, 15, 16, 17, 18, 19, 20, 21, 22, 23, 24, 25, 26, 27, 28, 29, 30, 31, 32, 33, 34, 35, 36, 37, 38, 39, 40, 41, 42, 43, 44, 45, 46] (by decide +kernel) (by decide +kernel)
set_option maxRecDepth 20000 in
theorem gX2_isGuess_X3_guessFor : GoodIn wsX2_isGuess (wsV RX2 84 RX3 yX3_guessFor wsX3_guessFor) := goodIn_app (goodIn_of _ (by decide +kernel)) ggX2_isGuess_X3_guessFor
theorem dX2_isGuess_0 : decode cX2_isGuess 0 = .ok (.iload_n 1, 1) := by decide +kernel
theorem dX2_isGuess_1 : decode cX2_isGuess 1 = .ok (.invokestatic 58, 3) := by decide +kernel
theorem dX2_isGuess_4 : decode cX2_isGuess 4 = .ok (.ifCond .eq 30, 3) := by decide +kernel
theorem dX2_isGuess_7 : decode cX2_isGuess 7 = .ok (.iload_n 2, 1) := by decide +kernel
theorem dX2_isGuess_8 : decode cX2_isGuess 8 = .ok (.iconst 1, 1) := by decide +kernel
theorem dX2_isGuess_9 : decode cX2_isGuess 9 = .ok (.if_icmp .gt 25, 3) := by decide +kernel
theorem dX2_isGuess_12 : decode cX2_isGuess 12 = .ok (.aload_n 0, 1) := by decide +kernel
theorem dX2_isGuess_13 : decode cX2_isGuess 13 = .ok (.iload_n 1, 1) := by decide +kernel
theorem dX2_isGuess_14 : decode cX2_isGuess 14 = .ok (.invokevirtual 84, 3) := by decide +kernel
theorem dX2_isGuess_17 : decode cX2_isGuess 17 = .ok (.iload_n 2, 1) := by decide +kernel
theorem dX2_isGuess_18 : decode cX2_isGuess 18 = .ok (.iconst 1, 1) := by decide +kernel
theorem dX2_isGuess_19 : decode cX2_isGuess 19 = .ok (.if_icmp .ne 7, 3) := by decide +kernel
theorem dX2_isGuess_22 : decode cX2_isGuess 22 = .ok (.iconst 1, 1) := by decide +kernel
theorem dX2_isGuess_23 : decode cX2_isGuess 23 = .ok (.goto 4, 3) := by decide +kernel
theorem dX2_isGuess_26 : decode cX2_isGuess 26 = .ok (.iconst 0, 1) := by decide +kernel
theorem dX2_isGuess_27 : decode cX2_isGuess 27 = .ok (.if_icmp .ne 7, 3) := by decide +kernel
theorem dX2_isGuess_30 : decode cX2_isGuess 30 = .ok (.iconst 1, 1) := by decide +kernel
theorem dX2_isGuess_31 : decode cX2_isGuess 31 = .ok (.goto 4, 3) := by decide +kernel
theorem dX2_isGuess_34 : decode cX2_isGuess 34 = .ok (.iconst 0, 1) := by decide +kernel
theorem dX2_isGuess_35 : decode cX2_isGuess 35 = .ok (.ireturn, 1) := by decide +kernel
set_option maxRecDepth 20000 in
theorem ggX3_init_X0_init : GoodIn wsX3_init wsX0_init := goodIn_r _ [16, 17, 2, 3, 4, 18, 19, 20, 21, 22, 23, 57, 58, 59, 60, 61, 62, 63, 64] (by decide +kernel) (by decide +kernel)
set_option maxRecDepth 20000 in
theorem gX3_init_X0_init_n33 : GoodIn wsX3_init (wsX0_init) := ggX3_init_X0_init
set_option maxRecDepth 20000 in
theorem ggX3_init_X3_beginAnew : GoodIn wsX3_init wsX3_beginAnew := goodIn_r _ [28, 7, 5, 8, 9, 10, 11, 29, 30, 31, 32, 33, 34, 35, 36, 13, 37, 19, 20, 38, 21, 22, 23, 39, 40, 41, 42, 43, 44, 45, 46, 47, 48, 49, 50, 51, 52, 53, 54, 55, 56, 57, 58, 59, 60, 61, 62, 63, 64] (by decide +kernel) (by decide +kernel)
set_option maxRecDepth 20000 in
theorem gX3_init_X3_beginAnew : GoodIn wsX3_init (wsV RX3 35 RX3 yX3_beginAnew wsX3_beginAnew) := goodIn_app (goodIn_of _ (by decide +kernel)) ggX3_init_X3_beginAnew
theorem dX3_init_0 : decode cX3_init 0 = .ok (.aload_n 0, 1) := by decide +kernel
theorem dX3_init_1 : decode cX3_init 1 = .ok (.invokespecial 3, 3) := by decide +kernel
theorem dX3_init_4 : decode cX3_init 4 = .ok (.aload_n 0, 1) := by decide +kernel
theorem dX3_init_5 : decode cX3_init 5 = .ok (.iconst 3, 1) := by decide +kernel
theorem dX3_init_6 : decode cX3_init 6 = .ok (.newarray .int, 2) := by decide +kernel
theorem dX3_init_8 : decode cX3_init 8 = .ok (.putfield 9, 3) := by decide +kernel
theorem dX3_init_11 : decode cX3_init 11 = .ok (.aload_n 0, 1) := by decide +kernel
theorem dX3_init_12 : decode cX3_init 12 = .ok (.iconst 2, 1) := by decide +kernel
theorem dX3_init_13 : decode cX3_init 13 = .ok (.anewarray 15, 3) := by decide +kernel
theorem dX3_init_16 : decode cX3_init 16 = .ok (.putfield 17, 3) := by decide +kernel
theorem dX3_init_19 : decode cX3_init 19 = .ok (.aload_n 0, 1) := by decide +kernel
theorem dX3_init_20 : decode cX3_init 20 = .ok (.bipush 26, 2) := by decide +kernel
theorem dX3_init_22 : decode cX3_init 22 = .ok (.newarray .int, 2) := by decide +kernel
theorem dX3_init_24 : decode cX3_init 24 = .ok (.putfield 21, 3) := by decide +kernel
theorem dX3_init_27 : decode cX3_init 27 = .ok (.aload_n 0, 1) := by decide +kernel
theorem dX3_init_28 : decode cX3_init 28 = .ok (.bipush 26, 2) := by decide +kernel
theorem dX3_init_30 : decode cX3_init 30 = .ok (.newarray .int, 2) := by decide +kernel
theorem dX3_init_32 : decode cX3_init 32 = .ok (.putfield 24, 3) := by decide +kernel
theorem dX3_init_35 : decode cX3_init 35 = .ok (.aload_n 0, 1) := by decide +kernel
theorem dX3_init_36 : decode cX3_init 36 = .ok (.bipush 26, 2) := by decide +kernel
theorem dX3_init_38 : decode cX3_init 38 = .ok (.newarray .int, 2) := by decide +kernel
theorem dX3_init_40 : decode cX3_init 40 = .ok (.putfield 27, 3) := by decide +kernel
theorem dX3_init_43 : decode cX3_init 43 = .ok (.aload_n 0, 1) := by decide +kernel
theorem dX3_init_44 : decode cX3_init 44 = .ok (.bipush 26, 2) := by decide +kernel
theorem dX3_init_46 : decode cX3_init 46 = .ok (.newarray .int, 2) := by decide +kernel
theorem dX3_init_48 : decode cX3_init 48 = .ok (.putfield 30, 3) := by decide +kernel
theorem dX3_init_51 : decode cX3_init 51 = .ok (.aload_n 0, 1) := by decide +kernel
theorem dX3_init_52 : decode cX3_init 52 = .ok (.getfield 9, 3) := by decide +kernel
theorem dX3_init_55 : decode cX3_init 55 = .ok (.iconst 0, 1) := by decide +kernel
theorem dX3_init_56 : decode cX3_init 56 = .ok (.iconst 4, 1) := by decide +kernel
theorem dX3_init_57 : decode cX3_init 57 = .ok (.iastore, 1) := by decide +kernel
theorem dX3_init_58 : decode cX3_init 58 = .ok (.aload_n 0, 1) := by decide +kernel
theorem dX3_init_59 : decode cX3_init 59 = .ok (.getfield 9, 3) := by decide +kernel
theorem dX3_init_62 : decode cX3_init 62 = .ok (.iconst 1, 1) := by decide +kernel
theorem dX3_init_63 : decode cX3_init 63 = .ok (.iconst 2, 1) := by decide +kernel
theorem dX3_init_64 : decode cX3_init 64 = .ok (.iastore, 1) := by decide +kernel
theorem dX3_init_65 : decode cX3_init 65 = .ok (.aload_n 0, 1) := by decide +kernel
theorem dX3_init_66 : decode cX3_init 66 = .ok (.getfield 9, 3) := by decide +kernel
theorem dX3_init_69 : decode cX3_init 69 = .ok (.iconst 2, 1) := by decide +kernel
theorem dX3_init_70 : decode cX3_init 70 = .ok (.iconst 2, 1) := by decide +kernel
theorem dX3_init_71 : decode cX3_init 71 = .ok (.iastore, 1) := by decide +kernel
theorem dX3_init_72 : decode cX3_init 72 = .ok (.iconst 0, 1) := by decide +kernel
theorem dX3_init_73 : decode cX3_init 73 = .ok (.istore_n 1, 1) := by decide +kernel
theorem dX3_init_74 : decode cX3_init 74 = .ok (.iload_n 1, 1) := by decide +kernel
theorem dX3_init_75 : decode cX3_init 75 = .ok (.iconst 2, 1) := by decide +kernel
theorem dX3_init_76 : decode cX3_init 76 = .ok (.if_icmp .ge 22, 3) := by decide +kernel
theorem dX3_init_79 : decode cX3_init 79 = .ok (.aload_n 0, 1) := by decide +kernel
theorem dX3_init_80 : decode cX3_init 80 = .ok (.getfield 17, 3) := by decide +kernel
theorem dX3_init_83 : decode cX3_init 83 = .ok (.iload_n 1, 1) := by decide +kernel
theorem dX3_init_84 : decode cX3_init 84 = .ok (.new 15, 3) := by decide +kernel
theorem dX3_init_87 : decode cX3_init 87 = .ok (.dup, 1) := by decide +kernel
theorem dX3_init_88 : decode cX3_init 88 = .ok (.invokespecial 33, 3) := by decide +kernel
theorem dX3_init_91 : decode cX3_init 91 = .ok (.aastore, 1) := by decide +kernel
theorem dX3_init_92 : decode cX3_init 92 = .ok (.iinc 1 1, 3) := by decide +kernel
theorem dX3_init_95 : decode cX3_init 95 = .ok (.goto (-21), 3) := by decide +kernel
theorem dX3_init_98 : decode cX3_init 98 = .ok (.aload_n 0, 1) := by decide +kernel
theorem dX3_init_99 : decode cX3_init 99 = .ok (.getfield 17, 3) := by decide +kernel
theorem dX3_init_102 : decode cX3_init 102 = .ok (.iconst 1, 1) := by decide +kernel
theorem dX3_init_103 : decode cX3_init 103 = .ok (.aaload, 1) := by decide +kernel
theorem dX3_init_104 : decode cX3_init 104 = .ok (.getfield 34, 3) := by decide +kernel
theorem dX3_init_107 : decode cX3_init 107 = .ok (.iconst 0, 1) := by decide +kernel
theorem dX3_init_108 : decode cX3_init 108 = .ok (.iconst 3, 1) := by decide +kernel
theorem dX3_init_109 : decode cX3_init 109 = .ok (.iastore, 1) := by decide +kernel
theorem dX3_init_110 : decode cX3_init 110 = .ok (.aload_n 0, 1) := by decide +kernel
theorem dX3_init_111 : decode cX3_init 111 = .ok (.getfield 17, 3) := by decide +kernel
theorem dX3_init_114 : decode cX3_init 114 = .ok (.iconst 1, 1) := by decide +kernel
theorem dX3_init_115 : decode cX3_init 115 = .ok (.aaload, 1) := by decide +kernel
theorem dX3_init_116 : decode cX3_init 116 = .ok (.getfield 34, 3) := by decide +kernel
theorem dX3_init_119 : decode cX3_init 119 = .ok (.iconst 1, 1) := by decide +kernel
theorem dX3_init_120 : decode cX3_init 120 = .ok (.iconst 4, 1) := by decide +kernel
theorem dX3_init_121 : decode cX3_init 121 = .ok (.iastore, 1) := by decide +kernel
theorem dX3_init_122 : decode cX3_init 122 = .ok (.aload_n 0, 1) := by decide +kernel
theorem dX3_init_123 : decode cX3_init 123 = .ok (.invokevirtual 35, 3) := by decide +kernel
theorem dX3_init_126 : decode cX3_init 126 = .ok (.return_, 1) := by decide +kernel
set_option maxRecDepth 20000 in
theorem ggX3_copyFrom_X0_copyFrom : GoodIn wsX3_copyFrom wsX0_copyFrom := goodIn_r _ [20, 21, 22, 3, 4, 5, 23, 24, 25, 26, 27, 28, 29, 41, 42, 43, 44, 45, 46, 47, 48] (by decide +kernel) (by decide +kernel)
set_option maxRecDepth 20000 in
theorem gX3_copyFrom_X0_copyFrom : GoodIn wsX3_copyFrom (wsV RX3 44 RX0 yX0_copyFrom wsX0_copyFrom) := goodIn_app (goodIn_of _ (by decide +kernel)) ggX3_copyFrom_X0_copyFrom
theorem dX3_copyFrom_0 : decode cX3_copyFrom 0 = .ok (.aload_n 1, 1) := by decide +kernel
theorem dX3_copyFrom_1 : decode cX3_copyFrom 1 = .ok (.getfield 9, 3) := by decide +kernel
theorem dX3_copyFrom_4 : decode cX3_copyFrom 4 = .ok (.iconst 0, 1) := by decide +kernel
theorem dX3_copyFrom_5 : decode cX3_copyFrom 5 = .ok (.aload_n 0, 1) := by decide +kernel
theorem dX3_copyFrom_6 : decode cX3_copyFrom 6 = .ok (.getfield 9, 3) := by decide +kernel
theorem dX3_copyFrom_9 : decode cX3_copyFrom 9 = .ok (.iconst 0, 1) := by decide +kernel
theorem dX3_copyFrom_10 : decode cX3_copyFrom 10 = .ok (.iconst 3, 1) := by decide +kernel
theorem dX3_copyFrom_11 : decode cX3_copyFrom 11 = .ok (.invokestatic 38, 3) := by decide +kernel
theorem dX3_copyFrom_14 : decode cX3_copyFrom 14 = .ok (.iconst 0, 1) := by decide +kernel
theorem dX3_copyFrom_15 : decode cX3_copyFrom 15 = .ok (.istore_n 2, 1) := by decide +kernel
theorem dX3_copyFrom_16 : decode cX3_copyFrom 16 = .ok (.iload_n 2, 1) := by decide +kernel
theorem dX3_copyFrom_17 : decode cX3_copyFrom 17 = .ok (.iconst 2, 1) := by decide +kernel
theorem dX3_copyFrom_18 : decode cX3_copyFrom 18 = .ok (.if_icmp .ge 24, 3) := by decide +kernel
theorem dX3_copyFrom_21 : decode cX3_copyFrom 21 = .ok (.aload_n 0, 1) := by decide +kernel
theorem dX3_copyFrom_22 : decode cX3_copyFrom 22 = .ok (.getfield 17, 3) := by decide +kernel
theorem dX3_copyFrom_25 : decode cX3_copyFrom 25 = .ok (.iload_n 2, 1) := by decide +kernel
theorem dX3_copyFrom_26 : decode cX3_copyFrom 26 = .ok (.aaload, 1) := by decide +kernel
theorem dX3_copyFrom_27 : decode cX3_copyFrom 27 = .ok (.aload_n 1, 1) := by decide +kernel
theorem dX3_copyFrom_28 : decode cX3_copyFrom 28 = .ok (.getfield 17, 3) := by decide +kernel
theorem dX3_copyFrom_31 : decode cX3_copyFrom 31 = .ok (.iload_n 2, 1) := by decide +kernel
theorem dX3_copyFrom_32 : decode cX3_copyFrom 32 = .ok (.aaload, 1) := by decide +kernel
theorem dX3_copyFrom_33 : decode cX3_copyFrom 33 = .ok (.invokevirtual 44, 3) := by decide +kernel
theorem dX3_copyFrom_36 : decode cX3_copyFrom 36 = .ok (.iinc 2 1, 3) := by decide +kernel
theorem dX3_copyFrom_39 : decode cX3_copyFrom 39 = .ok (.goto (-23), 3) := by decide +kernel
theorem dX3_copyFrom_42 : decode cX3_copyFrom 42 = .ok (.aload_n 1, 1) := by decide +kernel
theorem dX3_copyFrom_43 : decode cX3_copyFrom 43 = .ok (.getfield 21, 3) := by decide +kernel
theorem dX3_copyFrom_46 : decode cX3_copyFrom 46 = .ok (.iconst 0, 1) := by decide +kernel
theorem dX3_copyFrom_47 : decode cX3_copyFrom 47 = .ok (.aload_n 0, 1) := by decide +kernel
theorem dX3_copyFrom_48 : decode cX3_copyFrom 48 = .ok (.getfield 21, 3) := by decide +kernel
theorem dX3_copyFrom_51 : decode cX3_copyFrom 51 = .ok (.iconst 0, 1) := by decide +kernel
theorem dX3_copyFrom_52 : decode cX3_copyFrom 52 = .ok (.bipush 26, 2) := by decide +kernel
theorem dX3_copyFrom_54 : decode cX3_copyFrom 54 = .ok (.invokestatic 38, 3) := by decide +kernel
theorem dX3_copyFrom_57 : decode cX3_copyFrom 57 = .ok (.aload_n 1, 1) := by decide +kernel
theorem dX3_copyFrom_58 : decode cX3_copyFrom 58 = .ok (.getfield 24, 3) := by decide +kernel
theorem dX3_copyFrom_61 : decode cX3_copyFrom 61 = .ok (.iconst 0, 1) := by decide +kernel
theorem dX3_copyFrom_62 : decode cX3_copyFrom 62 = .ok (.aload_n 0, 1) := by decide +kernel
theorem dX3_copyFrom_63 : decode cX3_copyFrom 63 = .ok (.getfield 24, 3) := by decide +kernel
theorem dX3_copyFrom_66 : decode cX3_copyFrom 66 = .ok (.iconst 0, 1) := by decide +kernel
theorem dX3_copyFrom_67 : decode cX3_copyFrom 67 = .ok (.bipush 26, 2) := by decide +kernel
theorem dX3_copyFrom_69 : decode cX3_copyFrom 69 = .ok (.invokestatic 38, 3) := by decide +kernel
theorem dX3_copyFrom_72 : decode cX3_copyFrom 72 = .ok (.aload_n 1, 1) := by decide +kernel
theorem dX3_copyFrom_73 : decode cX3_copyFrom 73 = .ok (.getfield 27, 3) := by decide +kernel
theorem dX3_copyFrom_76 : decode cX3_copyFrom 76 = .ok (.iconst 0, 1) := by decide +kernel
theorem dX3_copyFrom_77 : decode cX3_copyFrom 77 = .ok (.aload_n 0, 1) := by decide +kernel
theorem dX3_copyFrom_78 : decode cX3_copyFrom 78 = .ok (.getfield 27, 3) := by decide +kernel
theorem dX3_copyFrom_81 : decode cX3_copyFrom 81 = .ok (.iconst 0, 1) := by decide +kernel
theorem dX3_copyFrom_82 : decode cX3_copyFrom 82 = .ok (.bipush 26, 2) := by decide +kernel
theorem dX3_copyFrom_84 : decode cX3_copyFrom 84 = .ok (.invokestatic 38, 3) := by decide +kernel
theorem dX3_copyFrom_87 : decode cX3_copyFrom 87 = .ok (.aload_n 1, 1) := by decide +kernel
theorem dX3_copyFrom_88 : decode cX3_copyFrom 88 = .ok (.getfield 30, 3) := by decide +kernel
theorem dX3_copyFrom_91 : decode cX3_copyFrom 91 = .ok (.iconst 0, 1) := by decide +kernel
theorem dX3_copyFrom_92 : decode cX3_copyFrom 92 = .ok (.aload_n 0, 1) := by decide +kernel
theorem dX3_copyFrom_93 : decode cX3_copyFrom 93 = .ok (.getfield 30, 3) := by decide +kernel
theorem dX3_copyFrom_96 : decode cX3_copyFrom 96 = .ok (.iconst 0, 1) := by decide +kernel
theorem dX3_copyFrom_97 : decode cX3_copyFrom 97 = .ok (.bipush 26, 2) := by decide +kernel
theorem dX3_copyFrom_99 : decode cX3_copyFrom 99 = .ok (.invokestatic 38, 3) := by decide +kernel
theorem dX3_copyFrom_102 : decode cX3_copyFrom 102 = .ok (.aload_n 0, 1) := by decide +kernel
theorem dX3_copyFrom_103 : decode cX3_copyFrom 103 = .ok (.aload_n 1, 1) := by decide +kernel
theorem dX3_copyFrom_104 : decode cX3_copyFrom 104 = .ok (.getfield 48, 3) := by decide +kernel
theorem dX3_copyFrom_107 : decode cX3_copyFrom 107 = .ok (.putfield 48, 3) := by decide +kernel
theorem dX3_copyFrom_110 : decode cX3_copyFrom 110 = .ok (.aload_n 0, 1) := by decide +kernel
theorem dX3_copyFrom_111 : decode cX3_copyFrom 111 = .ok (.aload_n 1, 1) := by decide +kernel
theorem dX3_copyFrom_112 : decode cX3_copyFrom 112 = .ok (.getfield 52, 3) := by decide +kernel
theorem dX3_copyFrom_115 : decode cX3_copyFrom 115 = .ok (.putfield 52, 3) := by decide +kernel
theorem dX3_copyFrom_118 : decode cX3_copyFrom 118 = .ok (.aload_n 0, 1) := by decide +kernel
theorem dX3_copyFrom_119 : decode cX3_copyFrom 119 = .ok (.aload_n 1, 1) := by decide +kernel
theorem dX3_copyFrom_120 : decode cX3_copyFrom 120 = .ok (.getfield 55, 3) := by decide +kernel
theorem dX3_copyFrom_123 : decode cX3_copyFrom 123 = .ok (.putfield 55, 3) := by decide +kernel
theorem dX3_copyFrom_126 : decode cX3_copyFrom 126 = .ok (.aload_n 0, 1) := by decide +kernel
theorem dX3_copyFrom_127 : decode cX3_copyFrom 127 = .ok (.aload_n 1, 1) := by decide +kernel
theorem dX3_copyFrom_128 : decode cX3_copyFrom 128 = .ok (.getfield 58, 3) := by decide +kernel
theorem dX3_copyFrom_131 : decode cX3_copyFrom 131 = .ok (.putfield 58, 3) := by decide +kernel
theorem dX3_copyFrom_134 : decode cX3_copyFrom 134 = .ok (.aload_n 0, 1) := by decide +kernel
theorem dX3_copyFrom_135 : decode cX3_copyFrom 135 = .ok (.aload_n 1, 1) := by decide +kernel
theorem dX3_copyFrom_136 : decode cX3_copyFrom 136 = .ok (.getfield 61, 3) := by decide +kernel
theorem dX3_copyFrom_139 : decode cX3_copyFrom 139 = .ok (.putfield 61, 3) := by decide +kernel
theorem dX3_copyFrom_142 : decode cX3_copyFrom 142 = .ok (.return_, 1) := by decide +kernel
set_option maxRecDepth 20000 in
theorem ggX3_beginAnew_X0_beginAnew : GoodIn wsX3_beginAnew wsX0_beginAnew := goodIn_r _ [16, 17, 18, 19, 20, 21, 22, 23, 24, 25, 26, 27, 28, 41, 42, 43, 44, 45, 46, 47, 48] (by decide +kernel) (by decide +kernel)
set_option maxRecDepth 20000 in
theorem gX3_beginAnew_X0_beginAnew : GoodIn wsX3_beginAnew (wsV RX3 64 RX0 yX0_beginAnew wsX0_beginAnew) := goodIn_app (goodIn_of _ (by decide +kernel)) ggX3_beginAnew_X0_beginAnew
set_option maxRecDepth 20000 in
theorem ggX3_beginAnew_J7_fill_53178 : GoodIn wsX3_beginAnew wsJ7_fill_53178 := goodIn_r _ [28] (by decide +kernel) (by decide +kernel)
set_option maxRecDepth 20000 in
theorem gX3_beginAnew_J7_fill_53178 : GoodIn wsX3_beginAnew (va_wsS RX3 67 yJ7_fill_53178 wsJ7_fill_53178) := goodIn_app (goodIn_of _ (by decide +kernel)) ggX3_beginAnew_J7_fill_53178
theorem dX3_beginAnew_0 : decode cX3_beginAnew 0 = .ok (.iconst 0, 1) := by decide +kernel
theorem dX3_beginAnew_1 : decode cX3_beginAnew 1 = .ok (.istore_n 1, 1) := by decide +kernel
theorem dX3_beginAnew_2 : decode cX3_beginAnew 2 = .ok (.iload_n 1, 1) := by decide +kernel
theorem dX3_beginAnew_3 : decode cX3_beginAnew 3 = .ok (.iconst 2, 1) := by decide +kernel
theorem dX3_beginAnew_4 : decode cX3_beginAnew 4 = .ok (.if_icmp .ge 24, 3) := by decide +kernel
theorem dX3_beginAnew_7 : decode cX3_beginAnew 7 = .ok (.aload_n 0, 1) := by decide +kernel
theorem dX3_beginAnew_8 : decode cX3_beginAnew 8 = .ok (.getfield 17, 3) := by decide +kernel
theorem dX3_beginAnew_11 : decode cX3_beginAnew 11 = .ok (.iload_n 1, 1) := by decide +kernel
theorem dX3_beginAnew_12 : decode cX3_beginAnew 12 = .ok (.aaload, 1) := by decide +kernel
theorem dX3_beginAnew_13 : decode cX3_beginAnew 13 = .ok (.aload_n 0, 1) := by decide +kernel
theorem dX3_beginAnew_14 : decode cX3_beginAnew 14 = .ok (.getfield 9, 3) := by decide +kernel
theorem dX3_beginAnew_17 : decode cX3_beginAnew 17 = .ok (.iconst 1, 1) := by decide +kernel
theorem dX3_beginAnew_18 : decode cX3_beginAnew 18 = .ok (.iaload, 1) := by decide +kernel
theorem dX3_beginAnew_19 : decode cX3_beginAnew 19 = .ok (.invokevirtual 64, 3) := by decide +kernel
theorem dX3_beginAnew_22 : decode cX3_beginAnew 22 = .ok (.iinc 1 1, 3) := by decide +kernel
theorem dX3_beginAnew_25 : decode cX3_beginAnew 25 = .ok (.goto (-23), 3) := by decide +kernel
theorem dX3_beginAnew_28 : decode cX3_beginAnew 28 = .ok (.aload_n 0, 1) := by decide +kernel
theorem dX3_beginAnew_29 : decode cX3_beginAnew 29 = .ok (.getfield 21, 3) := by decide +kernel
theorem dX3_beginAnew_32 : decode cX3_beginAnew 32 = .ok (.iconst 1, 1) := by decide +kernel
theorem dX3_beginAnew_33 : decode cX3_beginAnew 33 = .ok (.invokestatic 67, 3) := by decide +kernel
theorem dX3_beginAnew_36 : decode cX3_beginAnew 36 = .ok (.aload_n 0, 1) := by decide +kernel
theorem dX3_beginAnew_37 : decode cX3_beginAnew 37 = .ok (.getfield 24, 3) := by decide +kernel
theorem dX3_beginAnew_40 : decode cX3_beginAnew 40 = .ok (.iconst 0, 1) := by decide +kernel
theorem dX3_beginAnew_41 : decode cX3_beginAnew 41 = .ok (.invokestatic 67, 3) := by decide +kernel
theorem dX3_beginAnew_44 : decode cX3_beginAnew 44 = .ok (.aload_n 0, 1) := by decide +kernel
theorem dX3_beginAnew_45 : decode cX3_beginAnew 45 = .ok (.getfield 27, 3) := by decide +kernel
theorem dX3_beginAnew_48 : decode cX3_beginAnew 48 = .ok (.iconst 0, 1) := by decide +kernel
theorem dX3_beginAnew_49 : decode cX3_beginAnew 49 = .ok (.invokestatic 67, 3) := by decide +kernel
theorem dX3_beginAnew_52 : decode cX3_beginAnew 52 = .ok (.aload_n 0, 1) := by decide +kernel
theorem dX3_beginAnew_53 : decode cX3_beginAnew 53 = .ok (.getfield 30, 3) := by decide +kernel
theorem dX3_beginAnew_56 : decode cX3_beginAnew 56 = .ok (.iconst 0, 1) := by decide +kernel
theorem dX3_beginAnew_57 : decode cX3_beginAnew 57 = .ok (.invokestatic 67, 3) := by decide +kernel
theorem dX3_beginAnew_60 : decode cX3_beginAnew 60 = .ok (.aload_n 0, 1) := by decide +kernel
theorem dX3_beginAnew_61 : decode cX3_beginAnew 61 = .ok (.iconst 0, 1) := by decide +kernel
theorem dX3_beginAnew_62 : decode cX3_beginAnew 62 = .ok (.putfield 48, 3) := by decide +kernel
theorem dX3_beginAnew_65 : decode cX3_beginAnew 65 = .ok (.aload_n 0, 1) := by decide +kernel
theorem dX3_beginAnew_66 : decode cX3_beginAnew 66 = .ok (.iconst 0, 1) := by decide +kernel
theorem dX3_beginAnew_67 : decode cX3_beginAnew 67 = .ok (.putfield 52, 3) := by decide +kernel
theorem dX3_beginAnew_70 : decode cX3_beginAnew 70 = .ok (.aload_n 0, 1) := by decide +kernel
theorem dX3_beginAnew_71 : decode cX3_beginAnew 71 = .ok (.iconst 0, 1) := by decide +kernel
theorem dX3_beginAnew_72 : decode cX3_beginAnew 72 = .ok (.putfield 55, 3) := by decide +kernel
theorem dX3_beginAnew_75 : decode cX3_beginAnew 75 = .ok (.aload_n 0, 1) := by decide +kernel
theorem dX3_beginAnew_76 : decode cX3_beginAnew 76 = .ok (.iconst 0, 1) := by decide +kernel
theorem dX3_beginAnew_77 : decode cX3_beginAnew 77 = .ok (.putfield 58, 3) := by decide +kernel
theorem dX3_beginAnew_80 : decode cX3_beginAnew 80 = .ok (.aload_n 0, 1) := by decide +kernel
theorem dX3_beginAnew_81 : decode cX3_beginAnew 81 = .ok (.iconst 0, 1) := by decide +kernel
theorem dX3_beginAnew_82 : decode cX3_beginAnew 82 = .ok (.putfield 61, 3) := by decide +kernel
theorem dX3_beginAnew_85 : decode cX3_beginAnew 85 = .ok (.return_, 1) := by decide +kernel
set_option maxRecDepth 20000 in
theorem ggX3_changeDesk_X3_beginAnew : GoodIn wsX3_changeDesk wsX3_beginAnew := goodIn_r _ [7, 1, 8, 9, 10, 11, 12, 13, 14, 15, 16, 17, 18, 19, 20, 21, 22, 23, 24, 25, 26, 27, 28, 29, 30, 31, 32, 33, 34, 35, 36, 37, 38, 39, 40, 41, 42, 43, 44, 45, 46, 47, 48, 49, 50, 51, 52, 53, 54] (by decide +kernel) (by decide +kernel)
set_option maxRecDepth 20000 in
theorem gX3_changeDesk_X3_beginAnew : GoodIn wsX3_changeDesk (wsV RX3 35 RX3 yX3_beginAnew wsX3_beginAnew) := goodIn_app (goodIn_of _ (by decide +kernel)) ggX3_changeDesk_X3_beginAnew
theorem dX3_changeDesk_0 : decode cX3_changeDesk 0 = .ok (.aload_n 0, 1) := by decide +kernel
theorem dX3_changeDesk_1 : decode cX3_changeDesk 1 = .ok (.getfield 17, 3) := by decide +kernel
theorem dX3_changeDesk_4 : decode cX3_changeDesk 4 = .ok (.iload_n 1, 1) := by decide +kernel
theorem dX3_changeDesk_5 : decode cX3_changeDesk 5 = .ok (.aaload, 1) := by decide +kernel
theorem dX3_changeDesk_6 : decode cX3_changeDesk 6 = .ok (.getfield 34, 3) := by decide +kernel
theorem dX3_changeDesk_9 : decode cX3_changeDesk 9 = .ok (.iload_n 2, 1) := by decide +kernel
theorem dX3_changeDesk_10 : decode cX3_changeDesk 10 = .ok (.iload_n 3, 1) := by decide +kernel
theorem dX3_changeDesk_11 : decode cX3_changeDesk 11 = .ok (.iastore, 1) := by decide +kernel
theorem dX3_changeDesk_12 : decode cX3_changeDesk 12 = .ok (.aload_n 0, 1) := by decide +kernel
theorem dX3_changeDesk_13 : decode cX3_changeDesk 13 = .ok (.invokevirtual 35, 3) := by decide +kernel
theorem dX3_changeDesk_16 : decode cX3_changeDesk 16 = .ok (.return_, 1) := by decide +kernel
set_option maxRecDepth 20000 in
theorem ggX3_changeBoth_X3_beginAnew : GoodIn wsX3_changeBoth wsX3_beginAnew := goodIn_r _ [6, 7, 1, 8, 9, 10, 11, 12, 13, 14, 15, 16, 17, 18, 19, 20, 21, 22, 23, 24, 25, 26, 27, 28, 29, 30, 31, 32, 33, 34, 35, 36, 37, 38, 39, 40, 41, 42, 43, 44, 45, 46, 47, 48, 49, 50, 51, 52, 53] (by decide +kernel) (by decide +kernel)
set_option maxRecDepth 20000 in
theorem gX3_changeBoth_X3_beginAnew : GoodIn wsX3_changeBoth (wsV RX3 35 RX3 yX3_beginAnew wsX3_beginAnew) := goodIn_app (goodIn_of _ (by decide +kernel)) ggX3_changeBoth_X3_beginAnew
theorem dX3_changeBoth_0 : decode cX3_changeBoth 0 = .ok (.aload_n 0, 1) := by decide +kernel
theorem dX3_changeBoth_1 : decode cX3_changeBoth 1 = .ok (.getfield 9, 3) := by decide +kernel
theorem dX3_changeBoth_4 : decode cX3_changeBoth 4 = .ok (.iload_n 1, 1) := by decide +kernel
theorem dX3_changeBoth_5 : decode cX3_changeBoth 5 = .ok (.iload_n 2, 1) := by decide +kernel
theorem dX3_changeBoth_6 : decode cX3_changeBoth 6 = .ok (.iastore, 1) := by decide +kernel
theorem dX3_changeBoth_7 : decode cX3_changeBoth 7 = .ok (.aload_n 0, 1) := by decide +kernel
theorem dX3_changeBoth_8 : decode cX3_changeBoth 8 = .ok (.invokevirtual 35, 3) := by decide +kernel
theorem dX3_changeBoth_11 : decode cX3_changeBoth 11 = .ok (.return_, 1) := by decide +kernel
theorem dX3_isNote_0 : decode cX3_isNote 0 = .ok (.iload_n 1, 1) := by decide +kernel
theorem dX3_isNote_1 : decode cX3_isNote 1 = .ok (.ifCond .lt 19, 3) := by decide +kernel
theorem dX3_isNote_4 : decode cX3_isNote 4 = .ok (.iload_n 1, 1) := by decide +kernel
theorem dX3_isNote_5 : decode cX3_isNote 5 = .ok (.iconst 1, 1) := by decide +kernel
theorem dX3_isNote_6 : decode cX3_isNote 6 = .ok (.aload_n 0, 1) := by decide +kernel
theorem dX3_isNote_7 : decode cX3_isNote 7 = .ok (.getfield 9, 3) := by decide +kernel
theorem dX3_isNote_10 : decode cX3_isNote 10 = .ok (.iconst 0, 1) := by decide +kernel
theorem dX3_isNote_11 : decode cX3_isNote 11 = .ok (.iaload, 1) := by decide +kernel
theorem dX3_isNote_12 : decode cX3_isNote 12 = .ok (.ishl, 1) := by decide +kernel
theorem dX3_isNote_13 : decode cX3_isNote 13 = .ok (.if_icmp .ge 7, 3) := by decide +kernel
theorem dX3_isNote_16 : decode cX3_isNote 16 = .ok (.iconst 1, 1) := by decide +kernel
theorem dX3_isNote_17 : decode cX3_isNote 17 = .ok (.goto 4, 3) := by decide +kernel
theorem dX3_isNote_20 : decode cX3_isNote 20 = .ok (.iconst 0, 1) := by decide +kernel
theorem dX3_isNote_21 : decode cX3_isNote 21 = .ok (.ireturn, 1) := by decide +kernel
theorem dX3_isStrength_0 : decode cX3_isStrength 0 = .ok (.iload_n 1, 1) := by decide +kernel
theorem dX3_isStrength_1 : decode cX3_isStrength 1 = .ok (.ifCond .lt 19, 3) := by decide +kernel
theorem dX3_isStrength_4 : decode cX3_isStrength 4 = .ok (.iload_n 1, 1) := by decide +kernel
theorem dX3_isStrength_5 : decode cX3_isStrength 5 = .ok (.iconst 2, 1) := by decide +kernel
theorem dX3_isStrength_6 : decode cX3_isStrength 6 = .ok (.aload_n 0, 1) := by decide +kernel
theorem dX3_isStrength_7 : decode cX3_isStrength 7 = .ok (.getfield 9, 3) := by decide +kernel
theorem dX3_isStrength_10 : decode cX3_isStrength 10 = .ok (.iconst 1, 1) := by decide +kernel
theorem dX3_isStrength_11 : decode cX3_isStrength 11 = .ok (.iaload, 1) := by decide +kernel
theorem dX3_isStrength_12 : decode cX3_isStrength 12 = .ok (.imul, 1) := by decide +kernel
theorem dX3_isStrength_13 : decode cX3_isStrength 13 = .ok (.if_icmp .ge 7, 3) := by decide +kernel
theorem dX3_isStrength_16 : decode cX3_isStrength 16 = .ok (.iconst 1, 1) := by decide +kernel
theorem dX3_isStrength_17 : decode cX3_isStrength 17 = .ok (.goto 4, 3) := by decide +kernel
theorem dX3_isStrength_20 : decode cX3_isStrength 20 = .ok (.iconst 0, 1) := by decide +kernel
theorem dX3_isStrength_21 : decode cX3_isStrength 21 = .ok (.ireturn, 1) := by decide +kernel
theorem dX3_allClashes_0 : decode cX3_allClashes 0 = .ok (.aload_n 0, 1) := by decide +kernel
theorem dX3_allClashes_1 : decode cX3_allClashes 1 = .ok (.getfield 17, 3) := by decide +kernel
theorem dX3_allClashes_4 : decode cX3_allClashes 4 = .ok (.iconst 0, 1) := by decide +kernel
theorem dX3_allClashes_5 : decode cX3_allClashes 5 = .ok (.aaload, 1) := by decide +kernel
theorem dX3_allClashes_6 : decode cX3_allClashes 6 = .ok (.getfield 73, 3) := by decide +kernel
theorem dX3_allClashes_9 : decode cX3_allClashes 9 = .ok (.aload_n 0, 1) := by decide +kernel
theorem dX3_allClashes_10 : decode cX3_allClashes 10 = .ok (.getfield 17, 3) := by decide +kernel
theorem dX3_allClashes_13 : decode cX3_allClashes 13 = .ok (.iconst 1, 1) := by decide +kernel
theorem dX3_allClashes_14 : decode cX3_allClashes 14 = .ok (.aaload, 1) := by decide +kernel
theorem dX3_allClashes_15 : decode cX3_allClashes 15 = .ok (.getfield 73, 3) := by decide +kernel
theorem dX3_allClashes_18 : decode cX3_allClashes 18 = .ok (.iadd, 1) := by decide +kernel
theorem dX3_allClashes_19 : decode cX3_allClashes 19 = .ok (.ireturn, 1) := by decide +kernel
set_option maxRecDepth 20000 in
theorem ggX3_noteFor_X0_noteFor : GoodIn wsX3_noteFor wsX0_noteFor := goodIn_r _ [7, 8, 9, 10, 11, 6, 12, 13, 25, 26, 27, 28, 29, 30, 31, 32] (by decide +kernel) (by decide +kernel)
set_option maxRecDepth 20000 in
theorem gX3_noteFor_X0_noteFor : GoodIn wsX3_noteFor (wsV RX3 76 RX0 yX0_noteFor wsX0_noteFor) := goodIn_app (goodIn_of _ (by decide +kernel)) ggX3_noteFor_X0_noteFor
theorem dX3_noteFor_0 : decode cX3_noteFor 0 = .ok (.aload_n 0, 1) := by decide +kernel
theorem dX3_noteFor_1 : decode cX3_noteFor 1 = .ok (.getfield 17, 3) := by decide +kernel
theorem dX3_noteFor_4 : decode cX3_noteFor 4 = .ok (.iload_n 1, 1) := by decide +kernel
theorem dX3_noteFor_5 : decode cX3_noteFor 5 = .ok (.aaload, 1) := by decide +kernel
theorem dX3_noteFor_6 : decode cX3_noteFor 6 = .ok (.iload_n 2, 1) := by decide +kernel
theorem dX3_noteFor_7 : decode cX3_noteFor 7 = .ok (.aload_n 0, 1) := by decide +kernel
theorem dX3_noteFor_8 : decode cX3_noteFor 8 = .ok (.getfield 9, 3) := by decide +kernel
theorem dX3_noteFor_11 : decode cX3_noteFor 11 = .ok (.iconst 0, 1) := by decide +kernel
theorem dX3_noteFor_12 : decode cX3_noteFor 12 = .ok (.iaload, 1) := by decide +kernel
theorem dX3_noteFor_13 : decode cX3_noteFor 13 = .ok (.invokevirtual 76, 3) := by decide +kernel
theorem dX3_noteFor_16 : decode cX3_noteFor 16 = .ok (.ireturn, 1) := by decide +kernel
set_option maxRecDepth 20000 in
theorem ggX3_deskSays_X0_noteFor : GoodIn wsX3_deskSays wsX0_noteFor := goodIn_r _ [8, 9, 10, 11, 12, 7, 13, 14, 26, 27, 28, 29, 30, 31, 32, 33] (by decide +kernel) (by decide +kernel)
set_option maxRecDepth 20000 in
theorem gX3_deskSays_X0_noteFor : GoodIn wsX3_deskSays (wsV RX3 76 RX0 yX0_noteFor wsX0_noteFor) := goodIn_app (goodIn_of _ (by decide +kernel)) ggX3_deskSays_X0_noteFor
theorem dX3_deskSays_0 : decode cX3_deskSays 0 = .ok (.aload_n 0, 1) := by decide +kernel
theorem dX3_deskSays_1 : decode cX3_deskSays 1 = .ok (.getfield 17, 3) := by decide +kernel
theorem dX3_deskSays_4 : decode cX3_deskSays 4 = .ok (.iload_n 1, 1) := by decide +kernel
theorem dX3_deskSays_5 : decode cX3_deskSays 5 = .ok (.aaload, 1) := by decide +kernel
theorem dX3_deskSays_6 : decode cX3_deskSays 6 = .ok (.astore_n 3, 1) := by decide +kernel
theorem dX3_deskSays_7 : decode cX3_deskSays 7 = .ok (.aload_n 3, 1) := by decide +kernel
theorem dX3_deskSays_8 : decode cX3_deskSays 8 = .ok (.getfield 80, 3) := by decide +kernel
theorem dX3_deskSays_11 : decode cX3_deskSays 11 = .ok (.aload_n 3, 1) := by decide +kernel
theorem dX3_deskSays_12 : decode cX3_deskSays 12 = .ok (.iload_n 2, 1) := by decide +kernel
theorem dX3_deskSays_13 : decode cX3_deskSays 13 = .ok (.aload_n 0, 1) := by decide +kernel
theorem dX3_deskSays_14 : decode cX3_deskSays 14 = .ok (.getfield 9, 3) := by decide +kernel
theorem dX3_deskSays_17 : decode cX3_deskSays 17 = .ok (.iconst 0, 1) := by decide +kernel
theorem dX3_deskSays_18 : decode cX3_deskSays 18 = .ok (.iaload, 1) := by decide +kernel
theorem dX3_deskSays_19 : decode cX3_deskSays 19 = .ok (.invokevirtual 76, 3) := by decide +kernel
theorem dX3_deskSays_22 : decode cX3_deskSays 22 = .ok (.iaload, 1) := by decide +kernel
theorem dX3_deskSays_23 : decode cX3_deskSays 23 = .ok (.aload_n 0, 1) := by decide +kernel
theorem dX3_deskSays_24 : decode cX3_deskSays 24 = .ok (.getfield 9, 3) := by decide +kernel
theorem dX3_deskSays_27 : decode cX3_deskSays 27 = .ok (.iconst 1, 1) := by decide +kernel
theorem dX3_deskSays_28 : decode cX3_deskSays 28 = .ok (.iaload, 1) := by decide +kernel
theorem dX3_deskSays_29 : decode cX3_deskSays 29 = .ok (.if_icmp .lt 7, 3) := by decide +kernel
theorem dX3_deskSays_32 : decode cX3_deskSays 32 = .ok (.iconst 1, 1) := by decide +kernel
theorem dX3_deskSays_33 : decode cX3_deskSays 33 = .ok (.goto 4, 3) := by decide +kernel
theorem dX3_deskSays_36 : decode cX3_deskSays 36 = .ok (.iconst 0, 1) := by decide +kernel
theorem dX3_deskSays_37 : decode cX3_deskSays 37 = .ok (.ireturn, 1) := by decide +kernel
set_option maxRecDepth 20000 in
theorem ggX3_guessFor_X3_deskSays : GoodIn wsX3_guessFor wsX3_deskSays := goodIn_r _ [6, 7, 8, 9, 10, 11, 12, 13, 14, 15, 16, 17, 18, 19, 20, 21, 22, 23, 24, 25, 26, 27, 28, 29, 30, 31, 32, 33, 34, 35, 36, 37, 38, 39] (by decide +kernel) (by decide +kernel)
set_option maxRecDepth 20000 in
theorem gX3_guessFor_X3_deskSays : GoodIn wsX3_guessFor (wsV RX3 83 RX3 yX3_deskSays wsX3_deskSays) := goodIn_app (goodIn_of _ (by decide +kernel)) ggX3_guessFor_X3_deskSays
theorem dX3_guessFor_0 : decode cX3_guessFor 0 = .ok (.aload_n 0, 1) := by decide +kernel
theorem dX3_guessFor_1 : decode cX3_guessFor 1 = .ok (.aload_n 0, 1) := by decide +kernel
theorem dX3_guessFor_2 : decode cX3_guessFor 2 = .ok (.getfield 21, 3) := by decide +kernel
theorem dX3_guessFor_5 : decode cX3_guessFor 5 = .ok (.iload_n 1, 1) := by decide +kernel
theorem dX3_guessFor_6 : decode cX3_guessFor 6 = .ok (.iaload, 1) := by decide +kernel
theorem dX3_guessFor_7 : decode cX3_guessFor 7 = .ok (.iconst 2, 1) := by decide +kernel
theorem dX3_guessFor_8 : decode cX3_guessFor 8 = .ok (.if_icmp .ge 7, 3) := by decide +kernel
theorem dX3_guessFor_11 : decode cX3_guessFor 11 = .ok (.iconst 0, 1) := by decide +kernel
theorem dX3_guessFor_12 : decode cX3_guessFor 12 = .ok (.goto 4, 3) := by decide +kernel
theorem dX3_guessFor_15 : decode cX3_guessFor 15 = .ok (.iconst 1, 1) := by decide +kernel
theorem dX3_guessFor_16 : decode cX3_guessFor 16 = .ok (.iload_n 1, 1) := by decide +kernel
theorem dX3_guessFor_17 : decode cX3_guessFor 17 = .ok (.invokevirtual 83, 3) := by decide +kernel
theorem dX3_guessFor_20 : decode cX3_guessFor 20 = .ok (.ireturn, 1) := by decide +kernel
set_option maxRecDepth 20000 in
theorem ggX3_go_X3_deskSays : GoodIn wsX3_go wsX3_deskSays := goodIn_r _ [8, 2, 9, 3, 10, 11, 12, 13, 14, 15, 16, 17, 18, 19, 20, 64, 65, 66, 67, 68, 69, 70, 71, 72, 73, 74, 75, 76, 77, 78, 79, 80, 81, 82] (by decide +kernel) (by decide +kernel)
set_option maxRecDepth 20000 in
theorem gX3_go_X3_deskSays : GoodIn wsX3_go (wsV RX3 83 RX3 yX3_deskSays wsX3_deskSays) := goodIn_app (goodIn_of _ (by decide +kernel)) ggX3_go_X3_deskSays
set_option maxRecDepth 20000 in
theorem ggX3_go_X3_countGuess : GoodIn wsX3_go wsX3_countGuess := goodIn_r _ [24, 25, 26, 27, 28, 29, 30, 31, 32, 33, 34, 35, 36, 3, 64, 65, 66, 67, 68, 69, 70, 71, 72, 73, 74] (by decide +kernel) (by decide +kernel)
set_option maxRecDepth 20000 in
theorem gX3_go_X3_countGuess : GoodIn wsX3_go (wsV RX3 87 RX3 yX3_countGuess wsX3_countGuess) := goodIn_app (goodIn_of _ (by decide +kernel)) ggX3_go_X3_countGuess
set_option maxRecDepth 20000 in
theorem ggX3_go_X3_moveChooser : GoodIn wsX3_go wsX3_moveChooser := goodIn_r _ [40, 1, 41, 42, 35, 43, 33, 34, 36, 64, 65, 66, 67, 68, 69, 70, 71, 72, 73, 74] (by decide +kernel) (by decide +kernel)
set_option maxRecDepth 20000 in
theorem gX3_go_X3_moveChooser : GoodIn wsX3_go (wsV RX3 91 RX3 yX3_moveChooser wsX3_moveChooser) := goodIn_app (goodIn_of _ (by decide +kernel)) ggX3_go_X3_moveChooser
set_option maxRecDepth 20000 in
theorem ggX3_go_X3_noteFor : GoodIn wsX3_go wsX3_noteFor := goodIn_r _ [47, 2, 3, 10, 11, 12, 13, 14, 15, 16, 17, 18, 19, 20, 64, 65, 66, 67, 68, 69, 70, 71, 72, 73, 74, 75, 76, 77, 78, 79, 80, 81, 82] (by decide +kernel) (by decide +kernel)
set_option maxRecDepth 20000 in
theorem gX3_go_X3_noteFor : GoodIn wsX3_go (wsV RX3 95 RX3 yX3_noteFor wsX3_noteFor) := goodIn_app (goodIn_of _ (by decide +kernel)) ggX3_go_X3_noteFor
set_option maxRecDepth 20000 in
theorem ggX3_go_X0_use : GoodIn wsX3_go wsX0_use := goodIn_r _ [51, 52, 53, 54, 55, 56, 57, 58, 42, 35, 43, 59, 34, 36, 75, 76, 77, 78, 79, 80, 81, 82] (by decide +kernel) (by decide +kernel)
set_option maxRecDepth 20000 in
theorem gX3_go_X0_use : GoodIn wsX3_go (wsV RX3 96 RX0 yX0_use wsX0_use) := goodIn_app (goodIn_of _ (by decide +kernel)) ggX3_go_X0_use
set_option maxRecDepth 20000 in
theorem ggX3_go_X0_changePath : GoodIn wsX3_go wsX0_changePath := goodIn_r _ [63, 20, 15, 16, 17, 18, 13, 19, 75, 76, 77, 78, 79, 80, 81, 82] (by decide +kernel) (by decide +kernel)
set_option maxRecDepth 20000 in
theorem gX3_go_X0_changePath : GoodIn wsX3_go (wsV RX3 100 RX0 yX0_changePath wsX0_changePath) := goodIn_app (goodIn_of _ (by decide +kernel)) ggX3_go_X0_changePath
theorem dX3_go_0 : decode cX3_go 0 = .ok (.aload_n 0, 1) := by decide +kernel
theorem dX3_go_1 : decode cX3_go 1 = .ok (.iconst 0, 1) := by decide +kernel
theorem dX3_go_2 : decode cX3_go 2 = .ok (.iload_n 1, 1) := by decide +kernel
theorem dX3_go_3 : decode cX3_go 3 = .ok (.invokevirtual 83, 3) := by decide +kernel
theorem dX3_go_6 : decode cX3_go 6 = .ok (.istore_n 3, 1) := by decide +kernel
theorem dX3_go_7 : decode cX3_go 7 = .ok (.aload_n 0, 1) := by decide +kernel
theorem dX3_go_8 : decode cX3_go 8 = .ok (.iconst 1, 1) := by decide +kernel
theorem dX3_go_9 : decode cX3_go 9 = .ok (.iload_n 1, 1) := by decide +kernel
theorem dX3_go_10 : decode cX3_go 10 = .ok (.invokevirtual 83, 3) := by decide +kernel
theorem dX3_go_13 : decode cX3_go 13 = .ok (.istore 4, 2) := by decide +kernel
theorem dX3_go_15 : decode cX3_go 15 = .ok (.aload_n 0, 1) := by decide +kernel
theorem dX3_go_16 : decode cX3_go 16 = .ok (.getfield 21, 3) := by decide +kernel
theorem dX3_go_19 : decode cX3_go 19 = .ok (.iload_n 1, 1) := by decide +kernel
theorem dX3_go_20 : decode cX3_go 20 = .ok (.iaload, 1) := by decide +kernel
theorem dX3_go_21 : decode cX3_go 21 = .ok (.iconst 2, 1) := by decide +kernel
theorem dX3_go_22 : decode cX3_go 22 = .ok (.if_icmp .ge 7, 3) := by decide +kernel
theorem dX3_go_25 : decode cX3_go 25 = .ok (.iload_n 3, 1) := by decide +kernel
theorem dX3_go_26 : decode cX3_go 26 = .ok (.goto 5, 3) := by decide +kernel
theorem dX3_go_29 : decode cX3_go 29 = .ok (.iload 4, 2) := by decide +kernel
theorem dX3_go_31 : decode cX3_go 31 = .ok (.iload_n 2, 1) := by decide +kernel
theorem dX3_go_32 : decode cX3_go 32 = .ok (.if_icmp .ne 7, 3) := by decide +kernel
theorem dX3_go_35 : decode cX3_go 35 = .ok (.iconst 1, 1) := by decide +kernel
theorem dX3_go_36 : decode cX3_go 36 = .ok (.goto 4, 3) := by decide +kernel
theorem dX3_go_39 : decode cX3_go 39 = .ok (.iconst 0, 1) := by decide +kernel
theorem dX3_go_40 : decode cX3_go 40 = .ok (.istore 5, 2) := by decide +kernel
theorem dX3_go_42 : decode cX3_go 42 = .ok (.aload_n 0, 1) := by decide +kernel
theorem dX3_go_43 : decode cX3_go 43 = .ok (.iload_n 1, 1) := by decide +kernel
theorem dX3_go_44 : decode cX3_go 44 = .ok (.iload_n 2, 1) := by decide +kernel
theorem dX3_go_45 : decode cX3_go 45 = .ok (.iload 5, 2) := by decide +kernel
theorem dX3_go_47 : decode cX3_go 47 = .ok (.invokevirtual 87, 3) := by decide +kernel
theorem dX3_go_50 : decode cX3_go 50 = .ok (.iload_n 3, 1) := by decide +kernel
theorem dX3_go_51 : decode cX3_go 51 = .ok (.iload 4, 2) := by decide +kernel
theorem dX3_go_53 : decode cX3_go 53 = .ok (.if_icmp .eq 19, 3) := by decide +kernel
theorem dX3_go_56 : decode cX3_go 56 = .ok (.aload_n 0, 1) := by decide +kernel
theorem dX3_go_57 : decode cX3_go 57 = .ok (.iload_n 1, 1) := by decide +kernel
theorem dX3_go_58 : decode cX3_go 58 = .ok (.iload 4, 2) := by decide +kernel
theorem dX3_go_60 : decode cX3_go 60 = .ok (.iload_n 2, 1) := by decide +kernel
theorem dX3_go_61 : decode cX3_go 61 = .ok (.if_icmp .ne 7, 3) := by decide +kernel
theorem dX3_go_64 : decode cX3_go 64 = .ok (.iconst 1, 1) := by decide +kernel
theorem dX3_go_65 : decode cX3_go 65 = .ok (.goto 4, 3) := by decide +kernel
theorem dX3_go_68 : decode cX3_go 68 = .ok (.iconst 0, 1) := by decide +kernel
theorem dX3_go_69 : decode cX3_go 69 = .ok (.invokevirtual 91, 3) := by decide +kernel
theorem dX3_go_72 : decode cX3_go 72 = .ok (.iconst 0, 1) := by decide +kernel
theorem dX3_go_73 : decode cX3_go 73 = .ok (.istore 6, 2) := by decide +kernel
theorem dX3_go_75 : decode cX3_go 75 = .ok (.iload 6, 2) := by decide +kernel
theorem dX3_go_77 : decode cX3_go 77 = .ok (.iconst 2, 1) := by decide +kernel
theorem dX3_go_78 : decode cX3_go 78 = .ok (.if_icmp .ge 46, 3) := by decide +kernel
theorem dX3_go_81 : decode cX3_go 81 = .ok (.aload_n 0, 1) := by decide +kernel
theorem dX3_go_82 : decode cX3_go 82 = .ok (.getfield 17, 3) := by decide +kernel
theorem dX3_go_85 : decode cX3_go 85 = .ok (.iload 6, 2) := by decide +kernel
theorem dX3_go_87 : decode cX3_go 87 = .ok (.aaload, 1) := by decide +kernel
theorem dX3_go_88 : decode cX3_go 88 = .ok (.aload_n 0, 1) := by decide +kernel
theorem dX3_go_89 : decode cX3_go 89 = .ok (.iload 6, 2) := by decide +kernel
theorem dX3_go_91 : decode cX3_go 91 = .ok (.iload_n 1, 1) := by decide +kernel
theorem dX3_go_92 : decode cX3_go 92 = .ok (.invokevirtual 95, 3) := by decide +kernel
theorem dX3_go_95 : decode cX3_go 95 = .ok (.iload_n 1, 1) := by decide +kernel
theorem dX3_go_96 : decode cX3_go 96 = .ok (.iload_n 2, 1) := by decide +kernel
theorem dX3_go_97 : decode cX3_go 97 = .ok (.aload_n 0, 1) := by decide +kernel
theorem dX3_go_98 : decode cX3_go 98 = .ok (.getfield 9, 3) := by decide +kernel
theorem dX3_go_101 : decode cX3_go 101 = .ok (.iconst 1, 1) := by decide +kernel
theorem dX3_go_102 : decode cX3_go 102 = .ok (.iaload, 1) := by decide +kernel
theorem dX3_go_103 : decode cX3_go 103 = .ok (.invokevirtual 96, 3) := by decide +kernel
theorem dX3_go_106 : decode cX3_go 106 = .ok (.aload_n 0, 1) := by decide +kernel
theorem dX3_go_107 : decode cX3_go 107 = .ok (.getfield 17, 3) := by decide +kernel
theorem dX3_go_110 : decode cX3_go 110 = .ok (.iload 6, 2) := by decide +kernel
theorem dX3_go_112 : decode cX3_go 112 = .ok (.aaload, 1) := by decide +kernel
theorem dX3_go_113 : decode cX3_go 113 = .ok (.iload_n 1, 1) := by decide +kernel
theorem dX3_go_114 : decode cX3_go 114 = .ok (.iload_n 2, 1) := by decide +kernel
theorem dX3_go_115 : decode cX3_go 115 = .ok (.invokevirtual 100, 3) := by decide +kernel
theorem dX3_go_118 : decode cX3_go 118 = .ok (.iinc 6 1, 3) := by decide +kernel
theorem dX3_go_121 : decode cX3_go 121 = .ok (.goto (-46), 3) := by decide +kernel
theorem dX3_go_124 : decode cX3_go 124 = .ok (.iload 5, 2) := by decide +kernel
theorem dX3_go_126 : decode cX3_go 126 = .ok (.ireturn, 1) := by decide +kernel
set_option maxRecDepth 20000 in
theorem ggX3_goAll_X3_go : GoodIn wsX3_goAll wsX3_go := goodIn_r _ [7, 8, 9, 10, 11, 12, 13, 6, 14, 15, 16, 17, 18, 19, 20, 21, 22, 23, 24, 25, 26, 27, 28, 29, 30, 31, 32, 33, 34, 35, 36, 37, 38, 39, 40, 41, 42, 43, 44, 45, 46, 47, 48, 49, 50, 51, 52, 53, 54, 55, 56, 57, 58, 59, 60, 61, 62, 63, 64, 65, 66, 67, 68, 69, 78, 79, 80, 81, 82, 83, 84, 85, 86, 87, 88, 89, 90, 91, 92, 93, 94, 95, 96] (by decide +kernel) (by decide +kernel)
set_option maxRecDepth 20000 in
theorem gX3_goAll_X3_go : GoodIn wsX3_goAll (wsV RX3 111 RX3 yX3_go wsX3_go) := goodIn_app (goodIn_of _ (by decide +kernel)) ggX3_goAll_X3_go
theorem dX3_goAll_0 : decode cX3_goAll 0 = .ok (.iconst 0, 1) := by decide +kernel
theorem dX3_goAll_1 : decode cX3_goAll 1 = .ok (.istore_n 2, 1) := by decide +kernel
theorem dX3_goAll_2 : decode cX3_goAll 2 = .ok (.iload_n 2, 1) := by decide +kernel
theorem dX3_goAll_3 : decode cX3_goAll 3 = .ok (.aload_n 1, 1) := by decide +kernel
theorem dX3_goAll_4 : decode cX3_goAll 4 = .ok (.getfield 103, 3) := by decide +kernel
theorem dX3_goAll_7 : decode cX3_goAll 7 = .ok (.if_icmp .ge 43, 3) := by decide +kernel
theorem dX3_goAll_10 : decode cX3_goAll 10 = .ok (.iload_n 2, 1) := by decide +kernel
theorem dX3_goAll_11 : decode cX3_goAll 11 = .ok (.sipush 300, 3) := by decide +kernel
theorem dX3_goAll_14 : decode cX3_goAll 14 = .ok (.if_icmp .ge 36, 3) := by decide +kernel
theorem dX3_goAll_17 : decode cX3_goAll 17 = .ok (.aload_n 1, 1) := by decide +kernel
theorem dX3_goAll_18 : decode cX3_goAll 18 = .ok (.getfield 108, 3) := by decide +kernel
theorem dX3_goAll_21 : decode cX3_goAll 21 = .ok (.iload_n 2, 1) := by decide +kernel
theorem dX3_goAll_22 : decode cX3_goAll 22 = .ok (.iaload, 1) := by decide +kernel
theorem dX3_goAll_23 : decode cX3_goAll 23 = .ok (.istore_n 3, 1) := by decide +kernel
theorem dX3_goAll_24 : decode cX3_goAll 24 = .ok (.aload_n 0, 1) := by decide +kernel
theorem dX3_goAll_25 : decode cX3_goAll 25 = .ok (.iload_n 3, 1) := by decide +kernel
theorem dX3_goAll_26 : decode cX3_goAll 26 = .ok (.iconst 2, 1) := by decide +kernel
theorem dX3_goAll_27 : decode cX3_goAll 27 = .ok (.idiv, 1) := by decide +kernel
theorem dX3_goAll_28 : decode cX3_goAll 28 = .ok (.iload_n 3, 1) := by decide +kernel
theorem dX3_goAll_29 : decode cX3_goAll 29 = .ok (.iconst 2, 1) := by decide +kernel
theorem dX3_goAll_30 : decode cX3_goAll 30 = .ok (.irem, 1) := by decide +kernel
theorem dX3_goAll_31 : decode cX3_goAll 31 = .ok (.iconst 1, 1) := by decide +kernel
theorem dX3_goAll_32 : decode cX3_goAll 32 = .ok (.if_icmp .ne 7, 3) := by decide +kernel
theorem dX3_goAll_35 : decode cX3_goAll 35 = .ok (.iconst 1, 1) := by decide +kernel
theorem dX3_goAll_36 : decode cX3_goAll 36 = .ok (.goto 4, 3) := by decide +kernel
theorem dX3_goAll_39 : decode cX3_goAll 39 = .ok (.iconst 0, 1) := by decide +kernel
theorem dX3_goAll_40 : decode cX3_goAll 40 = .ok (.invokevirtual 111, 3) := by decide +kernel
theorem dX3_goAll_43 : decode cX3_goAll 43 = .ok (.pop, 1) := by decide +kernel
theorem dX3_goAll_44 : decode cX3_goAll 44 = .ok (.iinc 2 1, 3) := by decide +kernel
theorem dX3_goAll_47 : decode cX3_goAll 47 = .ok (.goto (-45), 3) := by decide +kernel
theorem dX3_goAll_50 : decode cX3_goAll 50 = .ok (.return_, 1) := by decide +kernel
theorem dX3_countGuess_0 : decode cX3_countGuess 0 = .ok (.aload_n 0, 1) := by decide +kernel
theorem dX3_countGuess_1 : decode cX3_countGuess 1 = .ok (.dup, 1) := by decide +kernel
theorem dX3_countGuess_2 : decode cX3_countGuess 2 = .ok (.getfield 48, 3) := by decide +kernel
theorem dX3_countGuess_5 : decode cX3_countGuess 5 = .ok (.iconst 1, 1) := by decide +kernel
theorem dX3_countGuess_6 : decode cX3_countGuess 6 = .ok (.iadd, 1) := by decide +kernel
theorem dX3_countGuess_7 : decode cX3_countGuess 7 = .ok (.putfield 48, 3) := by decide +kernel
theorem dX3_countGuess_10 : decode cX3_countGuess 10 = .ok (.aload_n 0, 1) := by decide +kernel
theorem dX3_countGuess_11 : decode cX3_countGuess 11 = .ok (.getfield 24, 3) := by decide +kernel
theorem dX3_countGuess_14 : decode cX3_countGuess 14 = .ok (.iload_n 1, 1) := by decide +kernel
theorem dX3_countGuess_15 : decode cX3_countGuess 15 = .ok (.dup2, 1) := by decide +kernel
theorem dX3_countGuess_16 : decode cX3_countGuess 16 = .ok (.iaload, 1) := by decide +kernel
theorem dX3_countGuess_17 : decode cX3_countGuess 17 = .ok (.iconst 1, 1) := by decide +kernel
theorem dX3_countGuess_18 : decode cX3_countGuess 18 = .ok (.iadd, 1) := by decide +kernel
theorem dX3_countGuess_19 : decode cX3_countGuess 19 = .ok (.iastore, 1) := by decide +kernel
theorem dX3_countGuess_20 : decode cX3_countGuess 20 = .ok (.iload_n 2, 1) := by decide +kernel
theorem dX3_countGuess_21 : decode cX3_countGuess 21 = .ok (.ifCond .eq 13, 3) := by decide +kernel
theorem dX3_countGuess_24 : decode cX3_countGuess 24 = .ok (.aload_n 0, 1) := by decide +kernel
theorem dX3_countGuess_25 : decode cX3_countGuess 25 = .ok (.getfield 27, 3) := by decide +kernel
theorem dX3_countGuess_28 : decode cX3_countGuess 28 = .ok (.iload_n 1, 1) := by decide +kernel
theorem dX3_countGuess_29 : decode cX3_countGuess 29 = .ok (.dup2, 1) := by decide +kernel
theorem dX3_countGuess_30 : decode cX3_countGuess 30 = .ok (.iaload, 1) := by decide +kernel
theorem dX3_countGuess_31 : decode cX3_countGuess 31 = .ok (.iconst 1, 1) := by decide +kernel
theorem dX3_countGuess_32 : decode cX3_countGuess 32 = .ok (.iadd, 1) := by decide +kernel
theorem dX3_countGuess_33 : decode cX3_countGuess 33 = .ok (.iastore, 1) := by decide +kernel
theorem dX3_countGuess_34 : decode cX3_countGuess 34 = .ok (.iload_n 3, 1) := by decide +kernel
theorem dX3_countGuess_35 : decode cX3_countGuess 35 = .ok (.ifCond .eq 61, 3) := by decide +kernel
theorem dX3_countGuess_38 : decode cX3_countGuess 38 = .ok (.aload_n 0, 1) := by decide +kernel
theorem dX3_countGuess_39 : decode cX3_countGuess 39 = .ok (.dup, 1) := by decide +kernel
theorem dX3_countGuess_40 : decode cX3_countGuess 40 = .ok (.getfield 52, 3) := by decide +kernel
theorem dX3_countGuess_43 : decode cX3_countGuess 43 = .ok (.iconst 1, 1) := by decide +kernel
theorem dX3_countGuess_44 : decode cX3_countGuess 44 = .ok (.iadd, 1) := by decide +kernel
theorem dX3_countGuess_45 : decode cX3_countGuess 45 = .ok (.putfield 52, 3) := by decide +kernel
theorem dX3_countGuess_48 : decode cX3_countGuess 48 = .ok (.aload_n 0, 1) := by decide +kernel
theorem dX3_countGuess_49 : decode cX3_countGuess 49 = .ok (.getfield 30, 3) := by decide +kernel
theorem dX3_countGuess_52 : decode cX3_countGuess 52 = .ok (.iload_n 1, 1) := by decide +kernel
theorem dX3_countGuess_53 : decode cX3_countGuess 53 = .ok (.dup2, 1) := by decide +kernel
theorem dX3_countGuess_54 : decode cX3_countGuess 54 = .ok (.iaload, 1) := by decide +kernel
theorem dX3_countGuess_55 : decode cX3_countGuess 55 = .ok (.iconst 1, 1) := by decide +kernel
theorem dX3_countGuess_56 : decode cX3_countGuess 56 = .ok (.iadd, 1) := by decide +kernel
theorem dX3_countGuess_57 : decode cX3_countGuess 57 = .ok (.iastore, 1) := by decide +kernel
theorem dX3_countGuess_58 : decode cX3_countGuess 58 = .ok (.aload_n 0, 1) := by decide +kernel
theorem dX3_countGuess_59 : decode cX3_countGuess 59 = .ok (.dup, 1) := by decide +kernel
theorem dX3_countGuess_60 : decode cX3_countGuess 60 = .ok (.getfield 55, 3) := by decide +kernel
theorem dX3_countGuess_63 : decode cX3_countGuess 63 = .ok (.iconst 1, 1) := by decide +kernel
theorem dX3_countGuess_64 : decode cX3_countGuess 64 = .ok (.iadd, 1) := by decide +kernel
theorem dX3_countGuess_65 : decode cX3_countGuess 65 = .ok (.putfield 55, 3) := by decide +kernel
theorem dX3_countGuess_68 : decode cX3_countGuess 68 = .ok (.aload_n 0, 1) := by decide +kernel
theorem dX3_countGuess_69 : decode cX3_countGuess 69 = .ok (.dup, 1) := by decide +kernel
theorem dX3_countGuess_70 : decode cX3_countGuess 70 = .ok (.getfield 58, 3) := by decide +kernel
theorem dX3_countGuess_73 : decode cX3_countGuess 73 = .ok (.iconst 1, 1) := by decide +kernel
theorem dX3_countGuess_74 : decode cX3_countGuess 74 = .ok (.iadd, 1) := by decide +kernel
theorem dX3_countGuess_75 : decode cX3_countGuess 75 = .ok (.putfield 58, 3) := by decide +kernel
theorem dX3_countGuess_78 : decode cX3_countGuess 78 = .ok (.aload_n 0, 1) := by decide +kernel
theorem dX3_countGuess_79 : decode cX3_countGuess 79 = .ok (.aload_n 0, 1) := by decide +kernel
theorem dX3_countGuess_80 : decode cX3_countGuess 80 = .ok (.getfield 61, 3) := by decide +kernel
theorem dX3_countGuess_83 : decode cX3_countGuess 83 = .ok (.aload_n 0, 1) := by decide +kernel
theorem dX3_countGuess_84 : decode cX3_countGuess 84 = .ok (.getfield 58, 3) := by decide +kernel
theorem dX3_countGuess_87 : decode cX3_countGuess 87 = .ok (.invokestatic 115, 3) := by decide +kernel
theorem dX3_countGuess_90 : decode cX3_countGuess 90 = .ok (.putfield 61, 3) := by decide +kernel
theorem dX3_countGuess_93 : decode cX3_countGuess 93 = .ok (.goto 23, 3) := by decide +kernel
theorem dX3_countGuess_96 : decode cX3_countGuess 96 = .ok (.aload_n 0, 1) := by decide +kernel
theorem dX3_countGuess_97 : decode cX3_countGuess 97 = .ok (.dup, 1) := by decide +kernel
theorem dX3_countGuess_98 : decode cX3_countGuess 98 = .ok (.getfield 55, 3) := by decide +kernel
theorem dX3_countGuess_101 : decode cX3_countGuess 101 = .ok (.aload_n 0, 1) := by decide +kernel
theorem dX3_countGuess_102 : decode cX3_countGuess 102 = .ok (.getfield 9, 3) := by decide +kernel
theorem dX3_countGuess_105 : decode cX3_countGuess 105 = .ok (.iconst 2, 1) := by decide +kernel
theorem dX3_countGuess_106 : decode cX3_countGuess 106 = .ok (.iaload, 1) := by decide +kernel
theorem dX3_countGuess_107 : decode cX3_countGuess 107 = .ok (.isub, 1) := by decide +kernel
theorem dX3_countGuess_108 : decode cX3_countGuess 108 = .ok (.putfield 55, 3) := by decide +kernel
theorem dX3_countGuess_111 : decode cX3_countGuess 111 = .ok (.aload_n 0, 1) := by decide +kernel
theorem dX3_countGuess_112 : decode cX3_countGuess 112 = .ok (.iconst 0, 1) := by decide +kernel
theorem dX3_countGuess_113 : decode cX3_countGuess 113 = .ok (.putfield 58, 3) := by decide +kernel
theorem dX3_countGuess_116 : decode cX3_countGuess 116 = .ok (.return_, 1) := by decide +kernel
theorem dX3_moveChooser_0 : decode cX3_moveChooser 0 = .ok (.iload_n 2, 1) := by decide +kernel
theorem dX3_moveChooser_1 : decode cX3_moveChooser 1 = .ok (.ifCond .eq 24, 3) := by decide +kernel
theorem dX3_moveChooser_4 : decode cX3_moveChooser 4 = .ok (.aload_n 0, 1) := by decide +kernel
theorem dX3_moveChooser_5 : decode cX3_moveChooser 5 = .ok (.getfield 21, 3) := by decide +kernel
theorem dX3_moveChooser_8 : decode cX3_moveChooser 8 = .ok (.iload_n 1, 1) := by decide +kernel
theorem dX3_moveChooser_9 : decode cX3_moveChooser 9 = .ok (.aload_n 0, 1) := by decide +kernel
theorem dX3_moveChooser_10 : decode cX3_moveChooser 10 = .ok (.getfield 21, 3) := by decide +kernel
theorem dX3_moveChooser_13 : decode cX3_moveChooser 13 = .ok (.iload_n 1, 1) := by decide +kernel
theorem dX3_moveChooser_14 : decode cX3_moveChooser 14 = .ok (.iaload, 1) := by decide +kernel
theorem dX3_moveChooser_15 : decode cX3_moveChooser 15 = .ok (.iconst 1, 1) := by decide +kernel
theorem dX3_moveChooser_16 : decode cX3_moveChooser 16 = .ok (.iadd, 1) := by decide +kernel
theorem dX3_moveChooser_17 : decode cX3_moveChooser 17 = .ok (.iconst 3, 1) := by decide +kernel
theorem dX3_moveChooser_18 : decode cX3_moveChooser 18 = .ok (.invokestatic 120, 3) := by decide +kernel
theorem dX3_moveChooser_21 : decode cX3_moveChooser 21 = .ok (.iastore, 1) := by decide +kernel
theorem dX3_moveChooser_22 : decode cX3_moveChooser 22 = .ok (.goto 21, 3) := by decide +kernel
theorem dX3_moveChooser_25 : decode cX3_moveChooser 25 = .ok (.aload_n 0, 1) := by decide +kernel
theorem dX3_moveChooser_26 : decode cX3_moveChooser 26 = .ok (.getfield 21, 3) := by decide +kernel
theorem dX3_moveChooser_29 : decode cX3_moveChooser 29 = .ok (.iload_n 1, 1) := by decide +kernel
theorem dX3_moveChooser_30 : decode cX3_moveChooser 30 = .ok (.aload_n 0, 1) := by decide +kernel
theorem dX3_moveChooser_31 : decode cX3_moveChooser 31 = .ok (.getfield 21, 3) := by decide +kernel
theorem dX3_moveChooser_34 : decode cX3_moveChooser 34 = .ok (.iload_n 1, 1) := by decide +kernel
theorem dX3_moveChooser_35 : decode cX3_moveChooser 35 = .ok (.iaload, 1) := by decide +kernel
theorem dX3_moveChooser_36 : decode cX3_moveChooser 36 = .ok (.iconst 1, 1) := by decide +kernel
theorem dX3_moveChooser_37 : decode cX3_moveChooser 37 = .ok (.isub, 1) := by decide +kernel
theorem dX3_moveChooser_38 : decode cX3_moveChooser 38 = .ok (.iconst 0, 1) := by decide +kernel
theorem dX3_moveChooser_39 : decode cX3_moveChooser 39 = .ok (.invokestatic 115, 3) := by decide +kernel
theorem dX3_moveChooser_42 : decode cX3_moveChooser 42 = .ok (.iastore, 1) := by decide +kernel
theorem dX3_moveChooser_43 : decode cX3_moveChooser 43 = .ok (.return_, 1) := by decide +kernel
theorem dX4_init_0 : decode cX4_init 0 = .ok (.aload_n 0, 1) := by decide +kernel
theorem dX4_init_1 : decode cX4_init 1 = .ok (.invokespecial 3, 3) := by decide +kernel
theorem dX4_init_4 : decode cX4_init 4 = .ok (.aload_n 0, 1) := by decide +kernel
theorem dX4_init_5 : decode cX4_init 5 = .ok (.bipush 80, 2) := by decide +kernel
theorem dX4_init_7 : decode cX4_init 7 = .ok (.newarray .int, 2) := by decide +kernel
theorem dX4_init_9 : decode cX4_init 9 = .ok (.putfield 11, 3) := by decide +kernel
theorem dX4_init_12 : decode cX4_init 12 = .ok (.aload_n 0, 1) := by decide +kernel
theorem dX4_init_13 : decode cX4_init 13 = .ok (.sipush 300, 3) := by decide +kernel
theorem dX4_init_16 : decode cX4_init 16 = .ok (.newarray .int, 2) := by decide +kernel
theorem dX4_init_18 : decode cX4_init 18 = .ok (.putfield 15, 3) := by decide +kernel
theorem dX4_init_21 : decode cX4_init 21 = .ok (.aload_n 0, 1) := by decide +kernel
theorem dX4_init_22 : decode cX4_init 22 = .ok (.iconst 4, 1) := by decide +kernel
theorem dX4_init_23 : decode cX4_init 23 = .ok (.newarray .int, 2) := by decide +kernel
theorem dX4_init_25 : decode cX4_init 25 = .ok (.putfield 18, 3) := by decide +kernel
theorem dX4_init_28 : decode cX4_init 28 = .ok (.return_, 1) := by decide +kernel
theorem dX4_add_0 : decode cX4_add 0 = .ok (.aload_n 0, 1) := by decide +kernel
theorem dX4_add_1 : decode cX4_add 1 = .ok (.getfield 21, 3) := by decide +kernel
theorem dX4_add_4 : decode cX4_add 4 = .ok (.bipush 80, 2) := by decide +kernel
theorem dX4_add_6 : decode cX4_add 6 = .ok (.if_icmp .lt 5, 3) := by decide +kernel
theorem dX4_add_9 : decode cX4_add 9 = .ok (.iconst 0, 1) := by decide +kernel
theorem dX4_add_10 : decode cX4_add 10 = .ok (.ireturn, 1) := by decide +kernel
theorem dX4_add_11 : decode cX4_add 11 = .ok (.aload_n 0, 1) := by decide +kernel
theorem dX4_add_12 : decode cX4_add 12 = .ok (.getfield 11, 3) := by decide +kernel
theorem dX4_add_15 : decode cX4_add 15 = .ok (.aload_n 0, 1) := by decide +kernel
theorem dX4_add_16 : decode cX4_add 16 = .ok (.getfield 21, 3) := by decide +kernel
theorem dX4_add_19 : decode cX4_add 19 = .ok (.iload_n 1, 1) := by decide +kernel
theorem dX4_add_20 : decode cX4_add 20 = .ok (.iastore, 1) := by decide +kernel
theorem dX4_add_21 : decode cX4_add 21 = .ok (.aload_n 0, 1) := by decide +kernel
theorem dX4_add_22 : decode cX4_add 22 = .ok (.dup, 1) := by decide +kernel
theorem dX4_add_23 : decode cX4_add 23 = .ok (.getfield 21, 3) := by decide +kernel
theorem dX4_add_26 : decode cX4_add 26 = .ok (.iconst 1, 1) := by decide +kernel
theorem dX4_add_27 : decode cX4_add 27 = .ok (.iadd, 1) := by decide +kernel
theorem dX4_add_28 : decode cX4_add 28 = .ok (.putfield 21, 3) := by decide +kernel
theorem dX4_add_31 : decode cX4_add 31 = .ok (.iconst 1, 1) := by decide +kernel
theorem dX4_add_32 : decode cX4_add 32 = .ok (.ireturn, 1) := by decide +kernel
set_option maxRecDepth 20000 in
theorem ggX4_isPlayable_X4_read : GoodIn wsX4_isPlayable wsX4_read := goodIn_r _ [7, 2, 8, 9, 10, 11, 1, 12, 13, 14, 6, 15, 16, 17, 18, 19, 20, 21, 22, 23, 24, 25, 26, 27, 28, 29, 30, 31, 32, 33, 34, 35, 36, 37, 38, 39, 40, 41, 42] (by decide +kernel) (by decide +kernel)
set_option maxRecDepth 20000 in
theorem gX4_isPlayable_X4_read : GoodIn wsX4_isPlayable (wsV RX4 25 RX4 yX4_read wsX4_read) := goodIn_app (goodIn_of _ (by decide +kernel)) ggX4_isPlayable_X4_read
theorem dX4_isPlayable_0 : decode cX4_isPlayable 0 = .ok (.aload_n 0, 1) := by decide +kernel
theorem dX4_isPlayable_1 : decode cX4_isPlayable 1 = .ok (.invokevirtual 25, 3) := by decide +kernel
theorem dX4_isPlayable_4 : decode cX4_isPlayable 4 = .ok (.ldc 29, 2) := by decide +kernel
theorem dX4_isPlayable_6 : decode cX4_isPlayable 6 = .ok (.if_icmp .ne 17, 3) := by decide +kernel
theorem dX4_isPlayable_9 : decode cX4_isPlayable 9 = .ok (.aload_n 0, 1) := by decide +kernel
theorem dX4_isPlayable_10 : decode cX4_isPlayable 10 = .ok (.getfield 30, 3) := by decide +kernel
theorem dX4_isPlayable_13 : decode cX4_isPlayable 13 = .ok (.sipush 300, 3) := by decide +kernel
theorem dX4_isPlayable_16 : decode cX4_isPlayable 16 = .ok (.if_icmp .gt 7, 3) := by decide +kernel
theorem dX4_isPlayable_19 : decode cX4_isPlayable 19 = .ok (.iconst 1, 1) := by decide +kernel
theorem dX4_isPlayable_20 : decode cX4_isPlayable 20 = .ok (.goto 4, 3) := by decide +kernel
theorem dX4_isPlayable_23 : decode cX4_isPlayable 23 = .ok (.iconst 0, 1) := by decide +kernel
theorem dX4_isPlayable_24 : decode cX4_isPlayable 24 = .ok (.ireturn, 1) := by decide +kernel
set_option maxRecDepth 20000 in
theorem ggX4_read_X4_readCharacter : GoodIn wsX4_read wsX4_readCharacter := goodIn_r _ [11, 3, 12, 13, 14, 10, 15, 1, 16, 17, 18, 19, 20, 21, 2, 22, 23, 24, 25, 26, 27, 28, 29, 30, 31, 32, 33, 34, 35, 36, 37, 38] (by decide +kernel) (by decide +kernel)
set_option maxRecDepth 20000 in
theorem gX4_read_X4_readCharacter : GoodIn wsX4_read (wsV RX4 39 RX4 yX4_readCharacter wsX4_readCharacter) := goodIn_app (goodIn_of _ (by decide +kernel)) ggX4_read_X4_readCharacter
theorem dX4_read_0 : decode cX4_read 0 = .ok (.aload_n 0, 1) := by decide +kernel
theorem dX4_read_1 : decode cX4_read 1 = .ok (.iconst 0, 1) := by decide +kernel
theorem dX4_read_2 : decode cX4_read 2 = .ok (.putfield 30, 3) := by decide +kernel
theorem dX4_read_5 : decode cX4_read 5 = .ok (.aload_n 0, 1) := by decide +kernel
theorem dX4_read_6 : decode cX4_read 6 = .ok (.iconst 0, 1) := by decide +kernel
theorem dX4_read_7 : decode cX4_read 7 = .ok (.putfield 33, 3) := by decide +kernel
theorem dX4_read_10 : decode cX4_read 10 = .ok (.aload_n 0, 1) := by decide +kernel
theorem dX4_read_11 : decode cX4_read 11 = .ok (.iconst 0, 1) := by decide +kernel
theorem dX4_read_12 : decode cX4_read 12 = .ok (.putfield 36, 3) := by decide +kernel
theorem dX4_read_15 : decode cX4_read 15 = .ok (.iconst 0, 1) := by decide +kernel
theorem dX4_read_16 : decode cX4_read 16 = .ok (.istore_n 1, 1) := by decide +kernel
theorem dX4_read_17 : decode cX4_read 17 = .ok (.iload_n 1, 1) := by decide +kernel
theorem dX4_read_18 : decode cX4_read 18 = .ok (.aload_n 0, 1) := by decide +kernel
theorem dX4_read_19 : decode cX4_read 19 = .ok (.getfield 21, 3) := by decide +kernel
theorem dX4_read_22 : decode cX4_read 22 = .ok (.if_icmp .ge 24, 3) := by decide +kernel
theorem dX4_read_25 : decode cX4_read 25 = .ok (.aload_n 0, 1) := by decide +kernel
theorem dX4_read_26 : decode cX4_read 26 = .ok (.aload_n 0, 1) := by decide +kernel
theorem dX4_read_27 : decode cX4_read 27 = .ok (.getfield 11, 3) := by decide +kernel
theorem dX4_read_30 : decode cX4_read 30 = .ok (.iload_n 1, 1) := by decide +kernel
theorem dX4_read_31 : decode cX4_read 31 = .ok (.iaload, 1) := by decide +kernel
theorem dX4_read_32 : decode cX4_read 32 = .ok (.invokevirtual 39, 3) := by decide +kernel
theorem dX4_read_35 : decode cX4_read 35 = .ok (.ifCond .ne 5, 3) := by decide +kernel
theorem dX4_read_38 : decode cX4_read 38 = .ok (.iload_n 1, 1) := by decide +kernel
theorem dX4_read_39 : decode cX4_read 39 = .ok (.ireturn, 1) := by decide +kernel
theorem dX4_read_40 : decode cX4_read 40 = .ok (.iinc 1 1, 3) := by decide +kernel
theorem dX4_read_43 : decode cX4_read 43 = .ok (.goto (-26), 3) := by decide +kernel
theorem dX4_read_46 : decode cX4_read 46 = .ok (.aload_n 0, 1) := by decide +kernel
theorem dX4_read_47 : decode cX4_read 47 = .ok (.getfield 33, 3) := by decide +kernel
theorem dX4_read_50 : decode cX4_read 50 = .ok (.ifCond .ne 22, 3) := by decide +kernel
theorem dX4_read_53 : decode cX4_read 53 = .ok (.aload_n 0, 1) := by decide +kernel
theorem dX4_read_54 : decode cX4_read 54 = .ok (.getfield 36, 3) := by decide +kernel
theorem dX4_read_57 : decode cX4_read 57 = .ok (.ifCond .eq 11, 3) := by decide +kernel
theorem dX4_read_60 : decode cX4_read 60 = .ok (.aload_n 0, 1) := by decide +kernel
theorem dX4_read_61 : decode cX4_read 61 = .ok (.getfield 36, 3) := by decide +kernel
theorem dX4_read_64 : decode cX4_read 64 = .ok (.iconst 1, 1) := by decide +kernel
theorem dX4_read_65 : decode cX4_read 65 = .ok (.if_icmp .ne 7, 3) := by decide +kernel
theorem dX4_read_68 : decode cX4_read 68 = .ok (.iconst 1, 1) := by decide +kernel
theorem dX4_read_69 : decode cX4_read 69 = .ok (.goto 4, 3) := by decide +kernel
theorem dX4_read_72 : decode cX4_read 72 = .ok (.iconst 0, 1) := by decide +kernel
theorem dX4_read_73 : decode cX4_read 73 = .ok (.istore_n 1, 1) := by decide +kernel
theorem dX4_read_74 : decode cX4_read 74 = .ok (.iload_n 1, 1) := by decide +kernel
theorem dX4_read_75 : decode cX4_read 75 = .ok (.ifCond .eq 8, 3) := by decide +kernel
theorem dX4_read_78 : decode cX4_read 78 = .ok (.ldc 29, 2) := by decide +kernel
theorem dX4_read_80 : decode cX4_read 80 = .ok (.goto 7, 3) := by decide +kernel
theorem dX4_read_83 : decode cX4_read 83 = .ok (.aload_n 0, 1) := by decide +kernel
theorem dX4_read_84 : decode cX4_read 84 = .ok (.getfield 21, 3) := by decide +kernel
theorem dX4_read_87 : decode cX4_read 87 = .ok (.ireturn, 1) := by decide +kernel
set_option maxRecDepth 20000 in
theorem ggX4_readCharacter_X4_readSign : GoodIn wsX4_readCharacter wsX4_readSign := goodIn_r _ [6, 7, 8, 9, 1, 24, 25, 26, 27, 28, 29, 30, 31] (by decide +kernel) (by decide +kernel)
set_option maxRecDepth 20000 in
theorem gX4_readCharacter_X4_readSign : GoodIn wsX4_readCharacter (wsV RX4 43 RX4 yX4_readSign wsX4_readSign) := goodIn_app (goodIn_of _ (by decide +kernel)) ggX4_readCharacter_X4_readSign
set_option maxRecDepth 20000 in
theorem ggX4_readCharacter_X4_readDigit : GoodIn wsX4_readCharacter wsX4_readDigit := goodIn_r _ [13, 14, 15, 1, 16, 17, 18, 5, 19, 7, 8, 24, 25, 26, 27, 28, 29, 30, 31] (by decide +kernel) (by decide +kernel)
set_option maxRecDepth 20000 in
theorem gX4_readCharacter_X4_readDigit : GoodIn wsX4_readCharacter (wsV RX4 46 RX4 yX4_readDigit wsX4_readDigit) := goodIn_app (goodIn_of _ (by decide +kernel)) ggX4_readCharacter_X4_readDigit
set_option maxRecDepth 20000 in
theorem ggX4_readCharacter_X4_readItem : GoodIn wsX4_readCharacter wsX4_readItem := goodIn_r _ [23, 9, 1, 14, 15, 7, 24, 25, 26, 27, 28, 29, 30, 31] (by decide +kernel) (by decide +kernel)
set_option maxRecDepth 20000 in
theorem gX4_readCharacter_X4_readItem : GoodIn wsX4_readCharacter (wsV RX4 49 RX4 yX4_readItem wsX4_readItem) := goodIn_app (goodIn_of _ (by decide +kernel)) ggX4_readCharacter_X4_readItem
theorem dX4_readCharacter_0 : decode cX4_readCharacter 0 = .ok (.aload_n 0, 1) := by decide +kernel
theorem dX4_readCharacter_1 : decode cX4_readCharacter 1 = .ok (.getfield 36, 3) := by decide +kernel
theorem dX4_readCharacter_4 : decode cX4_readCharacter 4 = .ok (.lookupswitch 40 #[(2, 28), (3, 34)], 28) := by decide +kernel
theorem dX4_readCharacter_32 : decode cX4_readCharacter 32 = .ok (.aload_n 0, 1) := by decide +kernel
theorem dX4_readCharacter_33 : decode cX4_readCharacter 33 = .ok (.iload_n 1, 1) := by decide +kernel
theorem dX4_readCharacter_34 : decode cX4_readCharacter 34 = .ok (.invokevirtual 43, 3) := by decide +kernel
theorem dX4_readCharacter_37 : decode cX4_readCharacter 37 = .ok (.ireturn, 1) := by decide +kernel
theorem dX4_readCharacter_38 : decode cX4_readCharacter 38 = .ok (.aload_n 0, 1) := by decide +kernel
theorem dX4_readCharacter_39 : decode cX4_readCharacter 39 = .ok (.iload_n 1, 1) := by decide +kernel
theorem dX4_readCharacter_40 : decode cX4_readCharacter 40 = .ok (.invokevirtual 46, 3) := by decide +kernel
theorem dX4_readCharacter_43 : decode cX4_readCharacter 43 = .ok (.ireturn, 1) := by decide +kernel
theorem dX4_readCharacter_44 : decode cX4_readCharacter 44 = .ok (.aload_n 0, 1) := by decide +kernel
theorem dX4_readCharacter_45 : decode cX4_readCharacter 45 = .ok (.iload_n 1, 1) := by decide +kernel
theorem dX4_readCharacter_46 : decode cX4_readCharacter 46 = .ok (.invokevirtual 49, 3) := by decide +kernel
theorem dX4_readCharacter_49 : decode cX4_readCharacter 49 = .ok (.ireturn, 1) := by decide +kernel
theorem dX4_readItem_0 : decode cX4_readItem 0 = .ok (.iload_n 1, 1) := by decide +kernel
theorem dX4_readItem_1 : decode cX4_readItem 1 = .ok (.bipush 97, 2) := by decide +kernel
theorem dX4_readItem_3 : decode cX4_readItem 3 = .ok (.if_icmp .lt 24, 3) := by decide +kernel
theorem dX4_readItem_6 : decode cX4_readItem 6 = .ok (.iload_n 1, 1) := by decide +kernel
theorem dX4_readItem_7 : decode cX4_readItem 7 = .ok (.bipush 122, 2) := by decide +kernel
theorem dX4_readItem_9 : decode cX4_readItem 9 = .ok (.if_icmp .gt 18, 3) := by decide +kernel
theorem dX4_readItem_12 : decode cX4_readItem 12 = .ok (.aload_n 0, 1) := by decide +kernel
theorem dX4_readItem_13 : decode cX4_readItem 13 = .ok (.iload_n 1, 1) := by decide +kernel
theorem dX4_readItem_14 : decode cX4_readItem 14 = .ok (.bipush 97, 2) := by decide +kernel
theorem dX4_readItem_16 : decode cX4_readItem 16 = .ok (.isub, 1) := by decide +kernel
theorem dX4_readItem_17 : decode cX4_readItem 17 = .ok (.putfield 52, 3) := by decide +kernel
theorem dX4_readItem_20 : decode cX4_readItem 20 = .ok (.aload_n 0, 1) := by decide +kernel
theorem dX4_readItem_21 : decode cX4_readItem 21 = .ok (.iconst 2, 1) := by decide +kernel
theorem dX4_readItem_22 : decode cX4_readItem 22 = .ok (.putfield 36, 3) := by decide +kernel
theorem dX4_readItem_25 : decode cX4_readItem 25 = .ok (.iconst 1, 1) := by decide +kernel
theorem dX4_readItem_26 : decode cX4_readItem 26 = .ok (.ireturn, 1) := by decide +kernel
theorem dX4_readItem_27 : decode cX4_readItem 27 = .ok (.iload_n 1, 1) := by decide +kernel
theorem dX4_readItem_28 : decode cX4_readItem 28 = .ok (.bipush 40, 2) := by decide +kernel
theorem dX4_readItem_30 : decode cX4_readItem 30 = .ok (.if_icmp .ne 41, 3) := by decide +kernel
theorem dX4_readItem_33 : decode cX4_readItem 33 = .ok (.aload_n 0, 1) := by decide +kernel
theorem dX4_readItem_34 : decode cX4_readItem 34 = .ok (.getfield 33, 3) := by decide +kernel
theorem dX4_readItem_37 : decode cX4_readItem 37 = .ok (.iconst 4, 1) := by decide +kernel
theorem dX4_readItem_38 : decode cX4_readItem 38 = .ok (.if_icmp .ge 33, 3) := by decide +kernel
theorem dX4_readItem_41 : decode cX4_readItem 41 = .ok (.aload_n 0, 1) := by decide +kernel
theorem dX4_readItem_42 : decode cX4_readItem 42 = .ok (.getfield 18, 3) := by decide +kernel
theorem dX4_readItem_45 : decode cX4_readItem 45 = .ok (.aload_n 0, 1) := by decide +kernel
theorem dX4_readItem_46 : decode cX4_readItem 46 = .ok (.getfield 33, 3) := by decide +kernel
theorem dX4_readItem_49 : decode cX4_readItem 49 = .ok (.aload_n 0, 1) := by decide +kernel
theorem dX4_readItem_50 : decode cX4_readItem 50 = .ok (.getfield 30, 3) := by decide +kernel
theorem dX4_readItem_53 : decode cX4_readItem 53 = .ok (.iastore, 1) := by decide +kernel
theorem dX4_readItem_54 : decode cX4_readItem 54 = .ok (.aload_n 0, 1) := by decide +kernel
theorem dX4_readItem_55 : decode cX4_readItem 55 = .ok (.dup, 1) := by decide +kernel
theorem dX4_readItem_56 : decode cX4_readItem 56 = .ok (.getfield 33, 3) := by decide +kernel
theorem dX4_readItem_59 : decode cX4_readItem 59 = .ok (.iconst 1, 1) := by decide +kernel
theorem dX4_readItem_60 : decode cX4_readItem 60 = .ok (.iadd, 1) := by decide +kernel
theorem dX4_readItem_61 : decode cX4_readItem 61 = .ok (.putfield 33, 3) := by decide +kernel
theorem dX4_readItem_64 : decode cX4_readItem 64 = .ok (.aload_n 0, 1) := by decide +kernel
theorem dX4_readItem_65 : decode cX4_readItem 65 = .ok (.iconst 0, 1) := by decide +kernel
theorem dX4_readItem_66 : decode cX4_readItem 66 = .ok (.putfield 36, 3) := by decide +kernel
theorem dX4_readItem_69 : decode cX4_readItem 69 = .ok (.iconst 1, 1) := by decide +kernel
theorem dX4_readItem_70 : decode cX4_readItem 70 = .ok (.ireturn, 1) := by decide +kernel
theorem dX4_readItem_71 : decode cX4_readItem 71 = .ok (.iload_n 1, 1) := by decide +kernel
theorem dX4_readItem_72 : decode cX4_readItem 72 = .ok (.bipush 41, 2) := by decide +kernel
theorem dX4_readItem_74 : decode cX4_readItem 74 = .ok (.if_icmp .ne 25, 3) := by decide +kernel
theorem dX4_readItem_77 : decode cX4_readItem 77 = .ok (.aload_n 0, 1) := by decide +kernel
theorem dX4_readItem_78 : decode cX4_readItem 78 = .ok (.getfield 33, 3) := by decide +kernel
theorem dX4_readItem_81 : decode cX4_readItem 81 = .ok (.ifCond .le 18, 3) := by decide +kernel
theorem dX4_readItem_84 : decode cX4_readItem 84 = .ok (.aload_n 0, 1) := by decide +kernel
theorem dX4_readItem_85 : decode cX4_readItem 85 = .ok (.getfield 36, 3) := by decide +kernel
theorem dX4_readItem_88 : decode cX4_readItem 88 = .ok (.iconst 1, 1) := by decide +kernel
theorem dX4_readItem_89 : decode cX4_readItem 89 = .ok (.if_icmp .ne 10, 3) := by decide +kernel
theorem dX4_readItem_92 : decode cX4_readItem 92 = .ok (.aload_n 0, 1) := by decide +kernel
theorem dX4_readItem_93 : decode cX4_readItem 93 = .ok (.iconst 3, 1) := by decide +kernel
theorem dX4_readItem_94 : decode cX4_readItem 94 = .ok (.putfield 36, 3) := by decide +kernel
theorem dX4_readItem_97 : decode cX4_readItem 97 = .ok (.iconst 1, 1) := by decide +kernel
theorem dX4_readItem_98 : decode cX4_readItem 98 = .ok (.ireturn, 1) := by decide +kernel
theorem dX4_readItem_99 : decode cX4_readItem 99 = .ok (.iconst 0, 1) := by decide +kernel
theorem dX4_readItem_100 : decode cX4_readItem 100 = .ok (.ireturn, 1) := by decide +kernel
theorem dX4_readSign_0 : decode cX4_readSign 0 = .ok (.iload_n 1, 1) := by decide +kernel
theorem dX4_readSign_1 : decode cX4_readSign 1 = .ok (.bipush 43, 2) := by decide +kernel
theorem dX4_readSign_3 : decode cX4_readSign 3 = .ok (.if_icmp .eq 11, 3) := by decide +kernel
theorem dX4_readSign_6 : decode cX4_readSign 6 = .ok (.iload_n 1, 1) := by decide +kernel
theorem dX4_readSign_7 : decode cX4_readSign 7 = .ok (.bipush 45, 2) := by decide +kernel
theorem dX4_readSign_9 : decode cX4_readSign 9 = .ok (.if_icmp .eq 5, 3) := by decide +kernel
theorem dX4_readSign_12 : decode cX4_readSign 12 = .ok (.iconst 0, 1) := by decide +kernel
theorem dX4_readSign_13 : decode cX4_readSign 13 = .ok (.ireturn, 1) := by decide +kernel
theorem dX4_readSign_14 : decode cX4_readSign 14 = .ok (.aload_n 0, 1) := by decide +kernel
theorem dX4_readSign_15 : decode cX4_readSign 15 = .ok (.getfield 30, 3) := by decide +kernel
theorem dX4_readSign_18 : decode cX4_readSign 18 = .ok (.sipush 300, 3) := by decide +kernel
theorem dX4_readSign_21 : decode cX4_readSign 21 = .ok (.if_icmp .ge 30, 3) := by decide +kernel
theorem dX4_readSign_24 : decode cX4_readSign 24 = .ok (.aload_n 0, 1) := by decide +kernel
theorem dX4_readSign_25 : decode cX4_readSign 25 = .ok (.getfield 15, 3) := by decide +kernel
theorem dX4_readSign_28 : decode cX4_readSign 28 = .ok (.aload_n 0, 1) := by decide +kernel
theorem dX4_readSign_29 : decode cX4_readSign 29 = .ok (.getfield 30, 3) := by decide +kernel
theorem dX4_readSign_32 : decode cX4_readSign 32 = .ok (.iconst 2, 1) := by decide +kernel
theorem dX4_readSign_33 : decode cX4_readSign 33 = .ok (.aload_n 0, 1) := by decide +kernel
theorem dX4_readSign_34 : decode cX4_readSign 34 = .ok (.getfield 52, 3) := by decide +kernel
theorem dX4_readSign_37 : decode cX4_readSign 37 = .ok (.imul, 1) := by decide +kernel
theorem dX4_readSign_38 : decode cX4_readSign 38 = .ok (.iload_n 1, 1) := by decide +kernel
theorem dX4_readSign_39 : decode cX4_readSign 39 = .ok (.bipush 43, 2) := by decide +kernel
theorem dX4_readSign_41 : decode cX4_readSign 41 = .ok (.if_icmp .ne 7, 3) := by decide +kernel
theorem dX4_readSign_44 : decode cX4_readSign 44 = .ok (.iconst 1, 1) := by decide +kernel
theorem dX4_readSign_45 : decode cX4_readSign 45 = .ok (.goto 4, 3) := by decide +kernel
theorem dX4_readSign_48 : decode cX4_readSign 48 = .ok (.iconst 0, 1) := by decide +kernel
theorem dX4_readSign_49 : decode cX4_readSign 49 = .ok (.iadd, 1) := by decide +kernel
theorem dX4_readSign_50 : decode cX4_readSign 50 = .ok (.iastore, 1) := by decide +kernel
theorem dX4_readSign_51 : decode cX4_readSign 51 = .ok (.aload_n 0, 1) := by decide +kernel
theorem dX4_readSign_52 : decode cX4_readSign 52 = .ok (.dup, 1) := by decide +kernel
theorem dX4_readSign_53 : decode cX4_readSign 53 = .ok (.getfield 30, 3) := by decide +kernel
theorem dX4_readSign_56 : decode cX4_readSign 56 = .ok (.iconst 1, 1) := by decide +kernel
theorem dX4_readSign_57 : decode cX4_readSign 57 = .ok (.iadd, 1) := by decide +kernel
theorem dX4_readSign_58 : decode cX4_readSign 58 = .ok (.putfield 30, 3) := by decide +kernel
theorem dX4_readSign_61 : decode cX4_readSign 61 = .ok (.aload_n 0, 1) := by decide +kernel
theorem dX4_readSign_62 : decode cX4_readSign 62 = .ok (.iconst 1, 1) := by decide +kernel
theorem dX4_readSign_63 : decode cX4_readSign 63 = .ok (.putfield 36, 3) := by decide +kernel
theorem dX4_readSign_66 : decode cX4_readSign 66 = .ok (.iconst 1, 1) := by decide +kernel
theorem dX4_readSign_67 : decode cX4_readSign 67 = .ok (.ireturn, 1) := by decide +kernel
set_option maxRecDepth 20000 in
theorem ggX4_readDigit_X4_repeatFrom : GoodIn wsX4_readDigit wsX4_repeatFrom := goodIn_r _ [8, 9, 10, 11, 12, 13, 14, 15, 16, 17, 18] (by decide +kernel) (by decide +kernel)
set_option maxRecDepth 20000 in
theorem gX4_readDigit_X4_repeatFrom : GoodIn wsX4_readDigit (wsV RX4 55 RX4 yX4_repeatFrom wsX4_repeatFrom) := goodIn_app (goodIn_of _ (by decide +kernel)) ggX4_readDigit_X4_repeatFrom
theorem dX4_readDigit_0 : decode cX4_readDigit 0 = .ok (.iload_n 1, 1) := by decide +kernel
theorem dX4_readDigit_1 : decode cX4_readDigit 1 = .ok (.bipush 50, 2) := by decide +kernel
theorem dX4_readDigit_3 : decode cX4_readDigit 3 = .ok (.if_icmp .lt 17, 3) := by decide +kernel
theorem dX4_readDigit_6 : decode cX4_readDigit 6 = .ok (.iload_n 1, 1) := by decide +kernel
theorem dX4_readDigit_7 : decode cX4_readDigit 7 = .ok (.bipush 57, 2) := by decide +kernel
theorem dX4_readDigit_9 : decode cX4_readDigit 9 = .ok (.if_icmp .gt 11, 3) := by decide +kernel
theorem dX4_readDigit_12 : decode cX4_readDigit 12 = .ok (.aload_n 0, 1) := by decide +kernel
theorem dX4_readDigit_13 : decode cX4_readDigit 13 = .ok (.getfield 33, 3) := by decide +kernel
theorem dX4_readDigit_16 : decode cX4_readDigit 16 = .ok (.iconst 1, 1) := by decide +kernel
theorem dX4_readDigit_17 : decode cX4_readDigit 17 = .ok (.if_icmp .ge 5, 3) := by decide +kernel
theorem dX4_readDigit_20 : decode cX4_readDigit 20 = .ok (.iconst 0, 1) := by decide +kernel
theorem dX4_readDigit_21 : decode cX4_readDigit 21 = .ok (.ireturn, 1) := by decide +kernel
theorem dX4_readDigit_22 : decode cX4_readDigit 22 = .ok (.aload_n 0, 1) := by decide +kernel
theorem dX4_readDigit_23 : decode cX4_readDigit 23 = .ok (.dup, 1) := by decide +kernel
theorem dX4_readDigit_24 : decode cX4_readDigit 24 = .ok (.getfield 33, 3) := by decide +kernel
theorem dX4_readDigit_27 : decode cX4_readDigit 27 = .ok (.iconst 1, 1) := by decide +kernel
theorem dX4_readDigit_28 : decode cX4_readDigit 28 = .ok (.isub, 1) := by decide +kernel
theorem dX4_readDigit_29 : decode cX4_readDigit 29 = .ok (.putfield 33, 3) := by decide +kernel
theorem dX4_readDigit_32 : decode cX4_readDigit 32 = .ok (.aload_n 0, 1) := by decide +kernel
theorem dX4_readDigit_33 : decode cX4_readDigit 33 = .ok (.aload_n 0, 1) := by decide +kernel
theorem dX4_readDigit_34 : decode cX4_readDigit 34 = .ok (.getfield 18, 3) := by decide +kernel
theorem dX4_readDigit_37 : decode cX4_readDigit 37 = .ok (.aload_n 0, 1) := by decide +kernel
theorem dX4_readDigit_38 : decode cX4_readDigit 38 = .ok (.getfield 33, 3) := by decide +kernel
theorem dX4_readDigit_41 : decode cX4_readDigit 41 = .ok (.iaload, 1) := by decide +kernel
theorem dX4_readDigit_42 : decode cX4_readDigit 42 = .ok (.iload_n 1, 1) := by decide +kernel
theorem dX4_readDigit_43 : decode cX4_readDigit 43 = .ok (.bipush 48, 2) := by decide +kernel
theorem dX4_readDigit_45 : decode cX4_readDigit 45 = .ok (.isub, 1) := by decide +kernel
theorem dX4_readDigit_46 : decode cX4_readDigit 46 = .ok (.invokevirtual 55, 3) := by decide +kernel
theorem dX4_readDigit_49 : decode cX4_readDigit 49 = .ok (.aload_n 0, 1) := by decide +kernel
theorem dX4_readDigit_50 : decode cX4_readDigit 50 = .ok (.iconst 1, 1) := by decide +kernel
theorem dX4_readDigit_51 : decode cX4_readDigit 51 = .ok (.putfield 36, 3) := by decide +kernel
theorem dX4_readDigit_54 : decode cX4_readDigit 54 = .ok (.iconst 1, 1) := by decide +kernel
theorem dX4_readDigit_55 : decode cX4_readDigit 55 = .ok (.ireturn, 1) := by decide +kernel
theorem dX4_repeatFrom_0 : decode cX4_repeatFrom 0 = .ok (.aload_n 0, 1) := by decide +kernel
theorem dX4_repeatFrom_1 : decode cX4_repeatFrom 1 = .ok (.getfield 30, 3) := by decide +kernel
theorem dX4_repeatFrom_4 : decode cX4_repeatFrom 4 = .ok (.iload_n 1, 1) := by decide +kernel
theorem dX4_repeatFrom_5 : decode cX4_repeatFrom 5 = .ok (.isub, 1) := by decide +kernel
theorem dX4_repeatFrom_6 : decode cX4_repeatFrom 6 = .ok (.istore_n 3, 1) := by decide +kernel
theorem dX4_repeatFrom_7 : decode cX4_repeatFrom 7 = .ok (.iload_n 1, 1) := by decide +kernel
theorem dX4_repeatFrom_8 : decode cX4_repeatFrom 8 = .ok (.iload_n 3, 1) := by decide +kernel
theorem dX4_repeatFrom_9 : decode cX4_repeatFrom 9 = .ok (.iload_n 2, 1) := by decide +kernel
theorem dX4_repeatFrom_10 : decode cX4_repeatFrom 10 = .ok (.imul, 1) := by decide +kernel
theorem dX4_repeatFrom_11 : decode cX4_repeatFrom 11 = .ok (.iadd, 1) := by decide +kernel
theorem dX4_repeatFrom_12 : decode cX4_repeatFrom 12 = .ok (.istore 4, 2) := by decide +kernel
theorem dX4_repeatFrom_14 : decode cX4_repeatFrom 14 = .ok (.iload 4, 2) := by decide +kernel
theorem dX4_repeatFrom_16 : decode cX4_repeatFrom 16 = .ok (.sipush 300, 3) := by decide +kernel
theorem dX4_repeatFrom_19 : decode cX4_repeatFrom 19 = .ok (.if_icmp .gt 38, 3) := by decide +kernel
theorem dX4_repeatFrom_22 : decode cX4_repeatFrom 22 = .ok (.aload_n 0, 1) := by decide +kernel
theorem dX4_repeatFrom_23 : decode cX4_repeatFrom 23 = .ok (.getfield 30, 3) := by decide +kernel
theorem dX4_repeatFrom_26 : decode cX4_repeatFrom 26 = .ok (.istore 5, 2) := by decide +kernel
theorem dX4_repeatFrom_28 : decode cX4_repeatFrom 28 = .ok (.iload 5, 2) := by decide +kernel
theorem dX4_repeatFrom_30 : decode cX4_repeatFrom 30 = .ok (.iload 4, 2) := by decide +kernel
theorem dX4_repeatFrom_32 : decode cX4_repeatFrom 32 = .ok (.if_icmp .ge 25, 3) := by decide +kernel
theorem dX4_repeatFrom_35 : decode cX4_repeatFrom 35 = .ok (.aload_n 0, 1) := by decide +kernel
theorem dX4_repeatFrom_36 : decode cX4_repeatFrom 36 = .ok (.getfield 15, 3) := by decide +kernel
theorem dX4_repeatFrom_39 : decode cX4_repeatFrom 39 = .ok (.iload 5, 2) := by decide +kernel
theorem dX4_repeatFrom_41 : decode cX4_repeatFrom 41 = .ok (.aload_n 0, 1) := by decide +kernel
theorem dX4_repeatFrom_42 : decode cX4_repeatFrom 42 = .ok (.getfield 15, 3) := by decide +kernel
theorem dX4_repeatFrom_45 : decode cX4_repeatFrom 45 = .ok (.iload 5, 2) := by decide +kernel
theorem dX4_repeatFrom_47 : decode cX4_repeatFrom 47 = .ok (.iload_n 3, 1) := by decide +kernel
theorem dX4_repeatFrom_48 : decode cX4_repeatFrom 48 = .ok (.isub, 1) := by decide +kernel
theorem dX4_repeatFrom_49 : decode cX4_repeatFrom 49 = .ok (.iaload, 1) := by decide +kernel
theorem dX4_repeatFrom_50 : decode cX4_repeatFrom 50 = .ok (.iastore, 1) := by decide +kernel
theorem dX4_repeatFrom_51 : decode cX4_repeatFrom 51 = .ok (.iinc 5 1, 3) := by decide +kernel
theorem dX4_repeatFrom_54 : decode cX4_repeatFrom 54 = .ok (.goto (-26), 3) := by decide +kernel
theorem dX4_repeatFrom_57 : decode cX4_repeatFrom 57 = .ok (.aload_n 0, 1) := by decide +kernel
theorem dX4_repeatFrom_58 : decode cX4_repeatFrom 58 = .ok (.iload 4, 2) := by decide +kernel
theorem dX4_repeatFrom_60 : decode cX4_repeatFrom 60 = .ok (.putfield 30, 3) := by decide +kernel
theorem dX4_repeatFrom_63 : decode cX4_repeatFrom 63 = .ok (.return_, 1) := by decide +kernel
end
section
theorem dX5_isDesk_0 : decode cX5_isDesk 0 = .ok (.iload_n 0, 1) := by decide +kernel
theorem dX5_isDesk_1 : decode cX5_isDesk 1 = .ok (.ifCond .lt 12, 3) := by decide +kernel
theorem dX5_isDesk_4 : decode cX5_isDesk 4 = .ok (.iload_n 0, 1) := by decide +kernel
theorem dX5_isDesk_5 : decode cX5_isDesk 5 = .ok (.iconst 2, 1) := by decide +kernel
theorem dX5_isDesk_6 : decode cX5_isDesk 6 = .ok (.if_icmp .ge 7, 3) := by decide +kernel
theorem dX5_isDesk_9 : decode cX5_isDesk 9 = .ok (.iconst 1, 1) := by decide +kernel
theorem dX5_isDesk_10 : decode cX5_isDesk 10 = .ok (.goto 4, 3) := by decide +kernel
theorem dX5_isDesk_13 : decode cX5_isDesk 13 = .ok (.iconst 0, 1) := by decide +kernel
theorem dX5_isDesk_14 : decode cX5_isDesk 14 = .ok (.ireturn, 1) := by decide +kernel
theorem dX5_isPlace_0 : decode cX5_isPlace 0 = .ok (.iload_n 0, 1) := by decide +kernel
theorem dX5_isPlace_1 : decode cX5_isPlace 1 = .ok (.ifCond .lt 13, 3) := by decide +kernel
theorem dX5_isPlace_4 : decode cX5_isPlace 4 = .ok (.iload_n 0, 1) := by decide +kernel
theorem dX5_isPlace_5 : decode cX5_isPlace 5 = .ok (.bipush 26, 2) := by decide +kernel
theorem dX5_isPlace_7 : decode cX5_isPlace 7 = .ok (.if_icmp .ge 7, 3) := by decide +kernel
theorem dX5_isPlace_10 : decode cX5_isPlace 10 = .ok (.iconst 1, 1) := by decide +kernel
theorem dX5_isPlace_11 : decode cX5_isPlace 11 = .ok (.goto 4, 3) := by decide +kernel
theorem dX5_isPlace_14 : decode cX5_isPlace 14 = .ok (.iconst 0, 1) := by decide +kernel
theorem dX5_isPlace_15 : decode cX5_isPlace 15 = .ok (.ireturn, 1) := by decide +kernel
theorem dX5_isDeskSetting_0 : decode cX5_isDeskSetting 0 = .ok (.iload_n 0, 1) := by decide +kernel
theorem dX5_isDeskSetting_1 : decode cX5_isDeskSetting 1 = .ok (.ifCond .lt 25, 3) := by decide +kernel
theorem dX5_isDeskSetting_4 : decode cX5_isDeskSetting 4 = .ok (.iload_n 0, 1) := by decide +kernel
theorem dX5_isDeskSetting_5 : decode cX5_isDeskSetting 5 = .ok (.iconst 3, 1) := by decide +kernel
theorem dX5_isDeskSetting_6 : decode cX5_isDeskSetting 6 = .ok (.if_icmp .ge 20, 3) := by decide +kernel
theorem dX5_isDeskSetting_9 : decode cX5_isDeskSetting 9 = .ok (.iload_n 1, 1) := by decide +kernel
theorem dX5_isDeskSetting_10 : decode cX5_isDeskSetting 10 = .ok (.ifCond .lt 16, 3) := by decide +kernel
theorem dX5_isDeskSetting_13 : decode cX5_isDeskSetting 13 = .ok (.iload_n 1, 1) := by decide +kernel
theorem dX5_isDeskSetting_14 : decode cX5_isDeskSetting 14 = .ok (.getstatic 253, 3) := by decide +kernel
theorem dX5_isDeskSetting_17 : decode cX5_isDeskSetting 17 = .ok (.iload_n 0, 1) := by decide +kernel
theorem dX5_isDeskSetting_18 : decode cX5_isDeskSetting 18 = .ok (.iaload, 1) := by decide +kernel
theorem dX5_isDeskSetting_19 : decode cX5_isDeskSetting 19 = .ok (.if_icmp .gt 7, 3) := by decide +kernel
theorem dX5_isDeskSetting_22 : decode cX5_isDeskSetting 22 = .ok (.iconst 1, 1) := by decide +kernel
theorem dX5_isDeskSetting_23 : decode cX5_isDeskSetting 23 = .ok (.goto 4, 3) := by decide +kernel
theorem dX5_isDeskSetting_26 : decode cX5_isDeskSetting 26 = .ok (.iconst 0, 1) := by decide +kernel
theorem dX5_isDeskSetting_27 : decode cX5_isDeskSetting 27 = .ok (.ireturn, 1) := by decide +kernel
theorem dX5_isCommonSetting_0 : decode cX5_isCommonSetting 0 = .ok (.iload_n 0, 1) := by decide +kernel
theorem dX5_isCommonSetting_1 : decode cX5_isCommonSetting 1 = .ok (.ifCond .lt 30, 3) := by decide +kernel
theorem dX5_isCommonSetting_4 : decode cX5_isCommonSetting 4 = .ok (.iload_n 0, 1) := by decide +kernel
theorem dX5_isCommonSetting_5 : decode cX5_isCommonSetting 5 = .ok (.iconst 3, 1) := by decide +kernel
theorem dX5_isCommonSetting_6 : decode cX5_isCommonSetting 6 = .ok (.if_icmp .ge 25, 3) := by decide +kernel
theorem dX5_isCommonSetting_9 : decode cX5_isCommonSetting 9 = .ok (.iload_n 1, 1) := by decide +kernel
theorem dX5_isCommonSetting_10 : decode cX5_isCommonSetting 10 = .ok (.getstatic 256, 3) := by decide +kernel
theorem dX5_isCommonSetting_13 : decode cX5_isCommonSetting 13 = .ok (.iload_n 0, 1) := by decide +kernel
theorem dX5_isCommonSetting_14 : decode cX5_isCommonSetting 14 = .ok (.iaload, 1) := by decide +kernel
theorem dX5_isCommonSetting_15 : decode cX5_isCommonSetting 15 = .ok (.if_icmp .lt 16, 3) := by decide +kernel
theorem dX5_isCommonSetting_18 : decode cX5_isCommonSetting 18 = .ok (.iload_n 1, 1) := by decide +kernel
theorem dX5_isCommonSetting_19 : decode cX5_isCommonSetting 19 = .ok (.getstatic 259, 3) := by decide +kernel
theorem dX5_isCommonSetting_22 : decode cX5_isCommonSetting 22 = .ok (.iload_n 0, 1) := by decide +kernel
theorem dX5_isCommonSetting_23 : decode cX5_isCommonSetting 23 = .ok (.iaload, 1) := by decide +kernel
theorem dX5_isCommonSetting_24 : decode cX5_isCommonSetting 24 = .ok (.if_icmp .gt 7, 3) := by decide +kernel
theorem dX5_isCommonSetting_27 : decode cX5_isCommonSetting 27 = .ok (.iconst 1, 1) := by decide +kernel
theorem dX5_isCommonSetting_28 : decode cX5_isCommonSetting 28 = .ok (.goto 4, 3) := by decide +kernel
theorem dX5_isCommonSetting_31 : decode cX5_isCommonSetting 31 = .ok (.iconst 0, 1) := by decide +kernel
theorem dX5_isCommonSetting_32 : decode cX5_isCommonSetting 32 = .ok (.ireturn, 1) := by decide +kernel
theorem dJ7_fill_53178_0 : decode cJ7_fill_53178 0 = .ok (.iconst 0, 1) := by decide +kernel
theorem dJ7_fill_53178_1 : decode cJ7_fill_53178 1 = .ok (.istore_n 2, 1) := by decide +kernel
theorem dJ7_fill_53178_2 : decode cJ7_fill_53178 2 = .ok (.aload_n 0, 1) := by decide +kernel
theorem dJ7_fill_53178_3 : decode cJ7_fill_53178 3 = .ok (.arraylength, 1) := by decide +kernel
theorem dJ7_fill_53178_4 : decode cJ7_fill_53178 4 = .ok (.istore_n 3, 1) := by decide +kernel
theorem dJ7_fill_53178_5 : decode cJ7_fill_53178 5 = .ok (.iload_n 2, 1) := by decide +kernel
theorem dJ7_fill_53178_6 : decode cJ7_fill_53178 6 = .ok (.iload_n 3, 1) := by decide +kernel
theorem dJ7_fill_53178_7 : decode cJ7_fill_53178 7 = .ok (.if_icmp .ge 13, 3) := by decide +kernel
theorem dJ7_fill_53178_10 : decode cJ7_fill_53178 10 = .ok (.aload_n 0, 1) := by decide +kernel
theorem dJ7_fill_53178_11 : decode cJ7_fill_53178 11 = .ok (.iload_n 2, 1) := by decide +kernel
theorem dJ7_fill_53178_12 : decode cJ7_fill_53178 12 = .ok (.iload_n 1, 1) := by decide +kernel
theorem dJ7_fill_53178_13 : decode cJ7_fill_53178 13 = .ok (.iastore, 1) := by decide +kernel
theorem dJ7_fill_53178_14 : decode cJ7_fill_53178 14 = .ok (.iinc 2 1, 3) := by decide +kernel
theorem dJ7_fill_53178_17 : decode cJ7_fill_53178 17 = .ok (.goto (-12), 3) := by decide +kernel
theorem dJ7_fill_53178_20 : decode cJ7_fill_53178 20 = .ok (.return_, 1) := by decide +kernel
abbrev vwCl : List vw_C := [(RX0, TX0, 8), (RX1, TX1, 3), (RX3, TX3, 11), (RX4, TX4, 8), (RX5, TX5, 6)]
end
section
/-! ===== base: worlds as lists of blocks, the surroundings (statics, texts), contracts in words, calls ===== -/
abbrev RV : Type := Nat → Nat → Int32
abbrev ty4 (cy : Nat → ClassId) : List (ClassId × FieldType) := [(cy 0, .int), (cy 1, .boolean), (cy 2, .object RX0), (cy 3, .object RX3)]
/-! permutations of worlds -/
theorem pmC {α : Type} : ∀ (l : List α) (i : Nat) (x y : α), l[i]? = some x → l.Perm (x :: l.eraseIdx i) ∧ (y :: l.eraseIdx i).Perm (l.set i y)
  | [], i, x, y, h => by simp at h
  | b :: t, 0, x, y, h => by
    have hb : b = x := by simpa using h
    subst hb
    exact ⟨List.Perm.refl _, List.Perm.refl _⟩
  | b :: t, i + 1, x, y, h => by
    have h' : t[i]? = some x := by simpa using h
    obtain ⟨h1, h2⟩ := pmC t i x y h'
    exact ⟨(h1.cons b).trans (List.Perm.swap x b _), (List.Perm.swap b y _).trans (h2.cons b)⟩
theorem pmF {α : Type} {l l' : List (List α)} (h : l.Perm l') : l.flatten.Perm l'.flatten := by
  induction h with
  | nil => exact List.Perm.refl _
  | cons x _ ih => exact ih.append_left x
  | swap x y l =>
    show (y ++ (x ++ l.flatten)).Perm (x ++ (y ++ l.flatten))
    rw [← List.append_assoc, ← List.append_assoc]
    exact List.perm_append_comm.append_right _
  | trans _ _ h1 h2 => exact h1.trans h2
theorem pmB {α : Type} (bs : List (List α)) (i : Nat) (w u : List α) (h : bs[i]? = some w) : bs.flatten.Perm (w ++ (bs.eraseIdx i).flatten) ∧ (u ++ (bs.eraseIdx i).flatten).Perm (bs.set i u).flatten :=
  ⟨pmF (pmC bs i w u h).1, pmF (pmC bs i w u h).2⟩
theorem pmB2 {α : Type} (bs : List (List α)) (i j : Nat) (w v u z : List α) (hi : bs[i]? = some w) (hj : (bs.eraseIdx i)[j]? = some v) :
    bs.flatten.Perm ((w ++ v) ++ ((bs.eraseIdx i).eraseIdx j).flatten) ∧ ((u ++ z) ++ ((bs.eraseIdx i).eraseIdx j).flatten).Perm (u ++ ((bs.eraseIdx i).set j z).flatten) := by
  rw [List.append_assoc, List.append_assoc]
  exact ⟨(pmB bs i w u hi).1.trans ((pmB (bs.eraseIdx i) j v z hj).1.append_left w), (pmB (bs.eraseIdx i) j v z hj).2.append_left u⟩
theorem vP_perm {D : va_G} {cl : List vw_C} {ws ws' : va_W} {H : Heap} (h : va_P D cl ws H) (p : ws.Perm ws') : va_P D cl ws' H := by
  intro k q hk
  obtain ⟨i, hi⟩ := List.getElem?_of_mem (p.mem_iff.mpr (List.mem_of_getElem? hk))
  exact h i q hi
theorem vD_iff {A : Nat → Prop} {ws : va_W} : va_D A ws ↔ ws.Pairwise (fun p q => p.1 ≠ q.1) ∧ ∀ q ∈ ws, A q.1 := by
  constructor
  · intro h
    refine ⟨List.pairwise_iff_getElem.mpr fun i j hi hj hij he => ?_, fun q hq => ?_⟩
    · have := h.1 i j _ _ (List.getElem?_eq_getElem hi) (List.getElem?_eq_getElem hj) he
      omega
    · obtain ⟨i, hi⟩ := List.getElem?_of_mem hq
      exact h.2 i q hi
  · intro h
    refine ⟨fun i j p q hi hj he => ?_, fun k q hk => h.2 q (List.mem_of_getElem? hk)⟩
    obtain ⟨hi1, hi2⟩ := List.getElem?_eq_some_iff.mp hi
    obtain ⟨hj1, hj2⟩ := List.getElem?_eq_some_iff.mp hj
    have hp := List.pairwise_iff_getElem.mp h.1
    rcases Nat.lt_trichotomy i j with hl | hl | hl
    · exact absurd (by rw [hi2, hj2]; exact he) (hp i j hi1 hj1 hl)
    · exact hl
    · exact absurd (by rw [hi2, hj2]; exact he.symm) (hp j i hj1 hi1 hl)
theorem vD_perm {A : Nat → Prop} {ws ws' : va_W} (h : va_D A ws) (p : ws.Perm ws') : va_D A ws' := by
  obtain ⟨h1, h2⟩ := vD_iff.mp h
  exact vD_iff.mpr ⟨(p.pairwise_iff (fun {x y} (hxy : x.1 ≠ y.1) => Ne.symm hxy)).mp h1, fun q hq => h2 q (p.mem_iff.mpr hq)⟩
/-- behind a call, by a permutation -/
theorem jn {A0 : Nat → Prop} {D : va_G} {cl : List vw_C} {ws wc wr w1 : va_W} {H H1 : Heap} (hP : va_P D cl ws H) (hD : va_D A0 ws) (hp : ws.Perm (wc ++ wr))
    (hk : ∀ q : Nat, q < H.size → ¬ va_A wc H.size q → H1[q]? = H[q]?) (hF : ∀ q, va_A wc H.size q → A0 q) (hP1 : va_P D cl w1 H1) (hD1 : va_D (va_A wc H.size) w1) : va_P D cl (w1 ++ wr) H1 ∧ va_D A0 (w1 ++ wr) := by
  have hP' := vP_perm hP hp
  have hD' := vD_perm hD hp
  have at' : ∀ (k : Nat) (q : Nat × va_E), wr[k]? = some q → (wc ++ wr)[wc.length + k]? = some q := fun k q h => by rw [List.getElem?_append_right (by omega), Nat.add_sub_cancel_left]; exact h
  have apart : ∀ (k : Nat) (q : Nat × va_E), wr[k]? = some q → q.1 < H.size ∧ ¬ va_A wc H.size q.1 := by
    intro k q hq
    have hl := (hP' _ q (at' k q hq)).lt
    refine ⟨hl, fun h => ?_⟩
    rcases h with ⟨k2, e, h⟩ | h
    · have hk2 : k2 < wc.length := (List.getElem?_eq_some_iff.mp h).1
      have := hD'.1 _ _ q (q.1, e) (at' k q hq) (show (wc ++ wr)[k2]? = some (q.1, e) by rw [List.getElem?_append_left hk2]; exact h) rfl
      omega
    · omega
  refine ⟨va_P.app hP1 (fun k q hq => (hP' _ q (at' k q hq)).kept (hk q.1 (apart k q hq).1 (apart k q hq).2)), va_D.app (hD1.weaken (fun k q _ h => hF q.1 h)) ?_ (fun i j x y hx hy hxy => (apart j y hy).2 (by rw [← hxy]; exact hD1.2 i x hx))⟩
  obtain ⟨h1, h2⟩ := vD_iff.mp hD'
  exact vD_iff.mpr ⟨(List.pairwise_append.mp h1).2.1, fun q hq => h2 q (List.mem_append_right _ hq)⟩
theorem fr {A0 : Nat → Prop} {ws wc wr : va_W} {H0 H : Heap} {locs : List Loc} (hD : va_D A0 ws) (hp : ws.Perm (wc ++ wr)) (hS : va_S A0 H0 H locs) (hA : ∀ q, H0.size ≤ q → A0 q) : ∀ q, va_A wc H.size q → A0 q := by
  intro q h
  rcases h with ⟨k, e, h⟩ | h
  · exact (vD_iff.mp hD).2 (q, e) (hp.mem_iff.mpr (List.mem_append_left _ (List.mem_of_getElem? h)))
  · exact hA q (Nat.le_trans hS.1 h)
theorem subP {D : va_G} {cl : List vw_C} {ws wc wr : va_W} {H : Heap} (hP : va_P D cl ws H) (hp : ws.Perm (wc ++ wr)) : va_P D cl wc H := by
  intro k q hk
  obtain ⟨i, hi⟩ := List.getElem?_of_mem (hp.mem_iff.mpr (List.mem_append_left _ (List.mem_of_getElem? hk)))
  exact hP i q hi
theorem subD {A : Nat → Prop} {ws wc wr : va_W} (hD : va_D A ws) (hp : ws.Perm (wc ++ wr)) : va_D (fun _ => True) wc := by
  obtain ⟨h1, -⟩ := vD_iff.mp (vD_perm hD hp)
  exact vD_iff.mpr ⟨(List.pairwise_append.mp h1).1, fun _ _ => trivial⟩
/-! the surroundings: what no method of ours changes -/
def evT (nm : String) (f : Nat → Int32) (A : Nat → Prop) (U : State) (H : Heap) : Prop := ∃ t : Nat, va_Z RX5 nm "[I" (.ref t) A U H ∧ va_T .int t 3 (fun j => .int (f j)) A U H
def dmost : Nat → Int32 := fun k => if k = 0 then 4 else if k = 1 then 6 else 1
def cleast : Nat → Int32 := fun k => if k = 0 then 2 else if k = 1 then 1 else 0
def cmost : Nat → Int32 := fun k => if k = 0 then 6 else if k = 1 then 4 else 9
theorem evT.go {nm : String} {f : Nat → Int32} {A0 A1 : Nat → Prop} {s U : State} {H : Heap} {locs : List Loc} (h : evT nm f A0 s s.heap) (hS : va_S A0 s.heap H locs) (hA : ∀ q, A1 q → A0 q) (hvm : s.vm.Alike U.vm) : evT nm f A1 U H := by
  obtain ⟨t, h1, h2⟩ := h
  exact ⟨t, ((va_Z.moved hvm h1).kept hS.2.1).narrow hA, ((va_T.moved hvm h2).kept hS.2.1).narrow hA⟩
def evS : List (Nat × String) := [(43, "no character code"), (54, "the text is full"), (97, "no such number"), (108, "no such number of a desk"), (125, "no such number of a note"), (145, "no such number of a place"), (162, "no such setting of a desk"), (175, "no such setting"), (187, "no such strength"), (197, "the text can't be played"), (207, "no state is remembered"), (218, "no such number of commands"), (224, "no script of so many commands"), (234, "no such number of branches"), (251, "nothing is saved in this slot"), (267, "no such desk"), (273, "no such place"), (275, "no such save slot"), (280, "no such note")]
def evR (s : State) : Prop := ∀ q ∈ evS, ∃ sa : Nat, vk_R RX5 q.1 q.2 sa s
def evNc (s : State) : Prop := va_Nc "java/lang/IllegalArgumentException" "java/lang/IndexOutOfBoundsException" s ∧ va_Nc "java/lang/IllegalStateException" "java/lang/IndexOutOfBoundsException" s ∧ va_Nc "java/lang/IllegalStateException" "java/lang/IllegalArgumentException" s
theorem evNc.go {s U : State} (h : evNc s) (hvm : s.vm.Alike U.vm) : evNc U := ⟨va_Nc.moved hvm h.1, va_Nc.moved hvm h.2.1, va_Nc.moved hvm h.2.2⟩
def evM (s : State) : Prop := va_Nw (.methodLinkNest RX5 9 yX4_init RX5) s ∧ va_Nw (.methodLinkNest RX3 33 yX0_init RX5) s ∧ va_Nw (.methodLinkNest RX2 58 yX5_isPlace RX5) s ∧ va_Nw (.methodLinkNest RX2 36 yX5_isDesk RX5) s ∧ va_Nw (.methodLinkNest RX2 65 yX5_isDeskSetting RX5) s ∧ va_Nw (.methodLinkNest RX2 72 yX5_isCommonSetting RX5) s ∧ va_AO RX0 s ∧ va_AO RX3 s ∧ va_Nw (.castable "java/lang/IndexOutOfBoundsException" "java/lang/IndexOutOfBoundsException") s ∧ va_Nw (.castable "java/lang/IllegalArgumentException" "java/lang/IllegalArgumentException") s ∧ va_Nw (.castable "java/lang/IllegalStateException" "java/lang/IllegalStateException") s
theorem evM.warm {s U : State} (hW : s.WarmedH U.vm) (h : evM s) : evM U := by
  obtain ⟨h1, h2, h3, h4, h5, h6, h7, h8, h9, h10, h11⟩ := h
  exact ⟨va_Nw.warmM hW h1, va_Nw.warmM hW h2, va_Nw.warmM hW h3, va_Nw.warmM hW h4, va_Nw.warmM hW h5, va_Nw.warmM hW h6, va_AO.moved hW.alike h7, va_AO.moved hW.alike h8, va_Nw.warmC hW h9, va_Nw.warmC hW h10, va_Nw.warmC hW h11⟩
theorem evM.same {u U : State} (hv : u.vm = U.vm) (h : evM u) : evM U := by
  obtain ⟨h1, h2, h3, h4, h5, h6, h7, h8, h9, h10, h11⟩ := h
  exact ⟨va_Nw.same rfl hv h1, va_Nw.same rfl hv h2, va_Nw.same rfl hv h3, va_Nw.same rfl hv h4, va_Nw.same rfl hv h5, va_Nw.same rfl hv h6, va_AO.moved (by rw [hv]; exact Vm.Alike.refl _) h7, va_AO.moved (by rw [hv]; exact Vm.Alike.refl _) h8, va_Nw.same rfl hv h9, va_Nw.same rfl hv h10, va_Nw.same rfl hv h11⟩
def Ev (A : Nat → Prop) (U : State) (H : Heap) : Prop := vx_Zq Bundle.tN "UNASSIGNED_STACK" Bundle.steD A U H ∧ vx_Zq Bundle.tN "SUPPRESSED_SENTINEL" Bundle.listD A U H ∧ evT "DESK_MOST" dmost A U H ∧ evT "COMMON_LEAST" cleast A U H ∧ evT "COMMON_MOST" cmost A U H ∧ evR U ∧ evNc U ∧ evM U
theorem Ev.go {A0 A1 : Nat → Prop} {s U : State} {H : Heap} {locs : List Loc} (h : Ev A0 s s.heap) (hS : va_S A0 s.heap H locs) (hA : ∀ q, A1 q → A0 q) (hW : s.WarmedH U.vm) : Ev A1 U H := by
  obtain ⟨h1, h2, h3, h4, h5, h6, h7, h8⟩ := h
  refine ⟨((h1.moved hW.alike).kept hS.2.1).narrow hA, ((h2.moved hW.alike).kept hS.2.1).narrow hA, h3.go hS hA hW.alike, h4.go hS hA hW.alike, h5.go hS hA hW.alike, fun q hq => ?_, h7.go hW.alike, h8.warm hW⟩
  obtain ⟨sa, h⟩ := h6 q hq
  exact ⟨sa, vk_R.warm hW h⟩
/-- a method's start: its values, its world, the surroundings -/
def PU (D : va_G) (cy : Nat → ClassId) (av : List Value) (ws : va_W) (sz : Nat) : Array Value → State → Prop := va_Pc av (fun U => U.heap.size = sz ∧ va_P D vwCl ws U.heap ∧ va_K D vwCl (ty4 cy) U ∧ va_D (fun _ => True) ws ∧ Ev (va_A ws sz) U U.heap)
theorem blU {D : va_G} {cy : Nat → ClassId} {av : List Value} {ws : va_W} {sz : Nat} : FrameBlind (PU D cy av ws sz) := by
  intro a U g mk q
  obtain ⟨q0, q1, qP, qK, qD, q2, q3, q4, q5, q6, q7, q8, q9⟩ := q
  have hvm : U.vm.Alike (U.calling g mk a).vm := Vm.Alike.refl U.vm
  exact ⟨q0, q1, qP, va_K.moved (u := U) (U := U.calling g mk a) hvm qK, qD, q2.moved hvm, q3.moved hvm,
    ⟨q4.choose, va_Z.moved hvm q4.choose_spec.1, va_T.moved hvm q4.choose_spec.2⟩, ⟨q5.choose, va_Z.moved hvm q5.choose_spec.1, va_T.moved hvm q5.choose_spec.2⟩, ⟨q6.choose, va_Z.moved hvm q6.choose_spec.1, va_T.moved hvm q6.choose_spec.2⟩,
    fun q hq => ⟨(q7 q hq).choose, vk_R.same (u := U) (U := U.calling g mk a) rfl (q7 q hq).choose_spec⟩, q8.go hvm, q9.same rfl⟩
theorem preU {D : va_G} {cy : Nat → ClassId} {A0 : Nat → Prop} {ws wc wr : va_W} {s : State} {H : Heap} {locs : List Loc} {As : List Value} (hP : va_P D vwCl ws H) (hD : va_D A0 ws) (hp : ws.Perm (wc ++ wr)) (hK : va_K D vwCl (ty4 cy) s) (hE : Ev A0 s s.heap) (hS : va_S A0 s.heap H locs) (hA : ∀ q, s.heap.size ≤ q → A0 q) :
    ∀ U : State, U.heap = H → s.WarmedH U.vm → PU D cy As wc H.size As.toArray U := by
  intro U hU hW
  refine ⟨rfl, by rw [hU], by rw [hU]; exact subP hP hp, va_K.moved hW.alike hK, subD hD hp, ?_⟩
  rw [hU]
  exact hE.go hS (fr hD hp hS hA) hW
/-- the world at a method's end -/
abbrev BW (D : va_G) (ws : va_W) (sz : Nat) (w1 : va_W) (t : State) : Prop := va_P D vwCl w1 t.heap ∧ va_D (va_A ws sz) w1
def RsI (D : va_G) (ws : va_W) (sz : Nat) (res : Int32) (w1 : va_W) : Array Value → State → Outcome → State → Prop := va_Qi (fun (r : Int32) (_ : Unit) => r = res) (fun _ t => BW D ws sz w1 t) (va_A ws sz)
def RsL (D : va_G) (ws : va_W) (sz : Nat) (res : Int64) (w1 : va_W) : Array Value → State → Outcome → State → Prop := va_Ql (fun (r : Int64) (_ : Unit) => r = res) (fun _ t => BW D ws sz w1 t) (va_A ws sz)
def RsN (D : va_G) (ws : va_W) (sz : Nat) (w1 : va_W) : Array Value → State → Outcome → State → Prop := va_Qv (fun (_ : Unit) => True) (fun _ t => BW D ws sz w1 t) (va_A ws sz)
/-- contracts of methods that return an int or boolean, a long, nothing -/
def CI (l : Launch) (y : MethodName) (wy : List Cond) (rm : Room) (D : va_G) (cy : Nat → ClassId) (av : List Value) (ws : va_W) (sz : Nat) (res : Int32) (w1 : va_W) (mc ms : Nat) : Prop := Met l y wy rm (PU D cy av ws sz) (RsI D ws sz res w1) mc ms (va_A ws sz)
def CL (l : Launch) (y : MethodName) (wy : List Cond) (rm : Room) (D : va_G) (cy : Nat → ClassId) (av : List Value) (ws : va_W) (sz : Nat) (res : Int64) (w1 : va_W) (mc ms : Nat) : Prop := Met l y wy rm (PU D cy av ws sz) (RsL D ws sz res w1) mc ms (va_A ws sz)
def CN (l : Launch) (y : MethodName) (wy : List Cond) (rm : Room) (D : va_G) (cy : Nat → ClassId) (av : List Value) (ws : va_W) (sz : Nat) (w1 : va_W) (mc ms : Nat) : Prop := Met l y wy rm (PU D cy av ws sz) (RsN D ws sz w1) mc ms (va_A ws sz)
section CLS
variable {p : Program} {l : Launch} {e : Env} {R : Room} {s : State} {m : MethodId} {args : Array Value} {below : List Frame} {meth : Method} {c : Code} {H : Heap} {locs : List Loc} {cells slots : Nat} {Q : State → Prop}
variable {pc : Nat} {ls : Array Slot} {rest st0 : List Value} {a : Array Value} {A0 : Nat → Prop} {mc ms : Nat} {D : va_G} {cy : Nat → ClassId} {ws wc wr w1 : va_W}
theorem cl_i {res : Int32} (hr : va_Run p l e R s m args below meth c H locs cells slots mc ms (F0 m pc ls st0) rest (RsI D wc H.size res w1 a) (va_A wc H.size)) (hP : va_P D vwCl ws H) (hD : va_D A0 ws) (hp : ws.Perm (wc ++ wr)) (hS : va_S A0 s.heap H locs) (hA : ∀ q, s.heap.size ≤ q → A0 q)
    (kk : ∀ (H1 : Heap) (locs1 : List Loc), va_P D vwCl (w1 ++ wr) H1 → va_D A0 (w1 ++ wr) → va_S A0 s.heap H1 locs1 → W p l e R s m args below meth c H1 locs1 (cells + mc) (slots + ms) Q (F0 m (pc + 3) ls (.int res :: rest))) : W p l e R s m args below meth c H locs cells slots Q (F0 m pc ls st0) := by
  have hF := fr hD hp hS hA
  refine va_calli hr hS (fun q _ h => hF q h) hF (fun r u t H1 locs1 ht hvm hw hB hz hk hS1 => ?_)
  obtain ⟨hP1, hD1⟩ := hB
  rw [ht] at hP1
  obtain ⟨a1, a2⟩ := jn hP hD hp hk hF hP1 hD1
  have hw : r = res := hw
  subst hw
  exact kk H1 locs1 a1 a2 hS1
theorem cl_l {res : Int64} (hr : va_Run p l e R s m args below meth c H locs cells slots mc ms (F0 m pc ls st0) rest (RsL D wc H.size res w1 a) (va_A wc H.size)) (hP : va_P D vwCl ws H) (hD : va_D A0 ws) (hp : ws.Perm (wc ++ wr)) (hS : va_S A0 s.heap H locs) (hA : ∀ q, s.heap.size ≤ q → A0 q)
    (kk : ∀ (H1 : Heap) (locs1 : List Loc), va_P D vwCl (w1 ++ wr) H1 → va_D A0 (w1 ++ wr) → va_S A0 s.heap H1 locs1 → W p l e R s m args below meth c H1 locs1 (cells + mc) (slots + ms) Q (F0 m (pc + 3) ls (.long res :: rest))) : W p l e R s m args below meth c H locs cells slots Q (F0 m pc ls st0) := by
  have hF := fr hD hp hS hA
  refine va_calll hr hS (fun q _ h => hF q h) hF (fun r u t H1 locs1 ht hvm hw hB hz hk hS1 => ?_)
  obtain ⟨hP1, hD1⟩ := hB
  rw [ht] at hP1
  obtain ⟨a1, a2⟩ := jn hP hD hp hk hF hP1 hD1
  have hw : r = res := hw
  subst hw
  exact kk H1 locs1 a1 a2 hS1
theorem cl_n (hr : va_Run p l e R s m args below meth c H locs cells slots mc ms (F0 m pc ls st0) rest (RsN D wc H.size w1 a) (va_A wc H.size)) (hP : va_P D vwCl ws H) (hD : va_D A0 ws) (hp : ws.Perm (wc ++ wr)) (hS : va_S A0 s.heap H locs) (hA : ∀ q, s.heap.size ≤ q → A0 q)
    (kk : ∀ (H1 : Heap) (locs1 : List Loc), va_P D vwCl (w1 ++ wr) H1 → va_D A0 (w1 ++ wr) → va_S A0 s.heap H1 locs1 → W p l e R s m args below meth c H1 locs1 (cells + mc) (slots + ms) Q (F0 m (pc + 3) ls rest)) : W p l e R s m args below meth c H locs cells slots Q (F0 m pc ls st0) := by
  have hF := fr hD hp hS hA
  refine va_callv hr hS (fun q _ h => hF q h) hF (fun u t H1 locs1 ht hvm hw hB hz hk hS1 => ?_)
  obtain ⟨hP1, hD1⟩ := hB
  rw [ht] at hP1
  obtain ⟨a1, a2⟩ := jn hP hD hp hk hF hP1 hD1
  exact kk H1 locs1 a1 a2 hS1
end CLS
section STARTS
variable {l : Launch} {y : MethodName} {wy ws' : List Cond} {rm : Room} {D : va_G} {cy : Nat → ClassId} {av : List Value} {ws w1 : va_W} {sz mc ms : Nat} {cc : ByteArray} {maxL : Nat}
theorem st_i {res : Int32} {ty : FieldType} (hy : plainName y.cls = true) (hw : wy = Cond.code y cc maxL (some ty) :: ws') (hn : narrow ty (.int res) = .int res) (hlen : (lg_sl av).length ≤ maxL)
    (body : ∀ (p : Program) (e : Env) (s : State) (m : MethodId) (below : List Frame) (meth : Method) (c : Code) (A : Nat → Prop) (Q : State → Prop) (ls : Array Slot), p.tables.exec = Jvm.exec → c.code = cc → (∀ w ∈ wy, w.before av.toArray s = true) → s.vm.findClass y.cls = some m.cls → c.maxLocals = maxL → meth.locks = false → s.heap.size = sz → va_P D vwCl ws s.heap → va_K D vwCl (ty4 cy) s → va_D A ws → Ev A s s.heap → (∀ q, s.heap.size ≤ q → A q) → lv_has ls maxL (lv_args 0 av) →
      (∀ (r : Int32) (H : Heap) (locs : List Loc) (pc : Nat) (ls : Array Slot), r = res → va_P D vwCl w1 H → va_D A w1 → va_S A s.heap H locs → decode cc pc = .ok (.ireturn, 1) → W p l e rm s m av.toArray below meth c H locs mc ms Q (F0 m pc ls [.int r])) →
      W p l e rm s m av.toArray below meth c s.heap [] 0 0 Q (F0 m 0 ls [])) : CI l y wy rm D cy av ws sz res w1 mc ms := by
  refine Met.ofW (cc := cc) (maxL := maxL) (ret := some ty) hy hw ?_
  intro p e s m args below meth c s₁ B hml hv
  obtain ⟨rfl, hsz, hP, hK, hD0, hE⟩ := hv
  have hx := B.exec
  have hb := B.bytes
  have hr := B.returns
  have hts := atoms_spec (ws := wy) B.pre
  have hown : s.vm.findClass y.cls = some m.cls := findClass_of_methodNamed B.named
  have hlocks := B.notSynchronized
  have hD := hD0.self (sz := sz)
  have hl := lv_entry av (n := maxL) hlen
  rw [lg_entry_eq]
  refine body p e s m below meth c (va_A ws sz) _ _ hx hb hts hown hml hlocks hsz hP hK hD hE (fun q h => Or.inr (by rw [← hsz]; exact h)) hl ?_
  intro r H locs pc ls hrr hP1 hD1 hS1 hdg
  subst hrr
  exact W.zret hx hb hr hn (fun t ht hW => ⟨⟨r, (), rfl, rfl, by rw [ht]; exact hP1, hD1⟩, hS1.F ht⟩) hS1.2.2 hdg hlocks
theorem st_l {res : Int64} (hy : plainName y.cls = true) (hw : wy = Cond.code y cc maxL (some .long) :: ws') (hlen : (lg_sl av).length ≤ maxL)
    (body : ∀ (p : Program) (e : Env) (s : State) (m : MethodId) (below : List Frame) (meth : Method) (c : Code) (A : Nat → Prop) (Q : State → Prop) (ls : Array Slot), p.tables.exec = Jvm.exec → c.code = cc → (∀ w ∈ wy, w.before av.toArray s = true) → s.vm.findClass y.cls = some m.cls → c.maxLocals = maxL → meth.locks = false → s.heap.size = sz → va_P D vwCl ws s.heap → va_K D vwCl (ty4 cy) s → va_D A ws → Ev A s s.heap → (∀ q, s.heap.size ≤ q → A q) → lv_has ls maxL (lv_args 0 av) →
      (∀ (r : Int64) (H : Heap) (locs : List Loc) (pc : Nat) (ls : Array Slot), r = res → va_P D vwCl w1 H → va_D A w1 → va_S A s.heap H locs → decode cc pc = .ok (.lreturn, 1) → W p l e rm s m av.toArray below meth c H locs mc ms Q (F0 m pc ls [.long r])) →
      W p l e rm s m av.toArray below meth c s.heap [] 0 0 Q (F0 m 0 ls [])) : CL l y wy rm D cy av ws sz res w1 mc ms := by
  refine Met.ofW (cc := cc) (maxL := maxL) (ret := some .long) hy hw ?_
  intro p e s m args below meth c s₁ B hml hv
  obtain ⟨rfl, hsz, hP, hK, hD0, hE⟩ := hv
  have hx := B.exec
  have hb := B.bytes
  have hr := B.returns
  have hts := atoms_spec (ws := wy) B.pre
  have hown : s.vm.findClass y.cls = some m.cls := findClass_of_methodNamed B.named
  have hlocks := B.notSynchronized
  have hD := hD0.self (sz := sz)
  have hl := lv_entry av (n := maxL) hlen
  rw [lg_entry_eq]
  refine body p e s m below meth c (va_A ws sz) _ _ hx hb hts hown hml hlocks hsz hP hK hD hE (fun q h => Or.inr (by rw [← hsz]; exact h)) hl ?_
  intro r H locs pc ls hrr hP1 hD1 hS1 hdg
  subst hrr
  exact W.lret hx hb hr (fun t ht hW => ⟨⟨r, (), rfl, rfl, by rw [ht]; exact hP1, hD1⟩, hS1.F ht⟩) hS1.2.2 hdg hlocks
theorem st_n (hy : plainName y.cls = true) (hw : wy = Cond.code y cc maxL none :: ws') (hlen : (lg_sl av).length ≤ maxL)
    (body : ∀ (p : Program) (e : Env) (s : State) (m : MethodId) (below : List Frame) (meth : Method) (c : Code) (A : Nat → Prop) (Q : State → Prop) (ls : Array Slot), p.tables.exec = Jvm.exec → c.code = cc → (∀ w ∈ wy, w.before av.toArray s = true) → s.vm.findClass y.cls = some m.cls → c.maxLocals = maxL → meth.locks = false → s.heap.size = sz → va_P D vwCl ws s.heap → va_K D vwCl (ty4 cy) s → va_D A ws → Ev A s s.heap → (∀ q, s.heap.size ≤ q → A q) → lv_has ls maxL (lv_args 0 av) →
      (∀ (H : Heap) (locs : List Loc) (pc : Nat) (ls : Array Slot), va_P D vwCl w1 H → va_D A w1 → va_S A s.heap H locs → decode cc pc = .ok (.return_, 1) → W p l e rm s m av.toArray below meth c H locs mc ms Q (F0 m pc ls [])) →
      W p l e rm s m av.toArray below meth c s.heap [] 0 0 Q (F0 m 0 ls [])) : CN l y wy rm D cy av ws sz w1 mc ms := by
  refine Met.ofW (cc := cc) (maxL := maxL) (ret := none) hy hw ?_
  intro p e s m args below meth c s₁ B hml hv
  obtain ⟨rfl, hsz, hP, hK, hD0, hE⟩ := hv
  have hx := B.exec
  have hb := B.bytes
  have hr := B.returns
  have hts := atoms_spec (ws := wy) B.pre
  have hown : s.vm.findClass y.cls = some m.cls := findClass_of_methodNamed B.named
  have hlocks := B.notSynchronized
  have hD := hD0.self (sz := sz)
  have hl := lv_entry av (n := maxL) hlen
  rw [lg_entry_eq]
  refine body p e s m below meth c (va_A ws sz) _ _ hx hb hts hown hml hlocks hsz hP hK hD hE (fun q h => Or.inr (by rw [← hsz]; exact h)) hl ?_
  intro H locs pc ls hP1 hD1 hS1 hdg
  exact W.vret hx hb hr (fun t ht hW => ⟨⟨(), rfl, trivial, by rw [ht]; exact hP1, hD1⟩, hS1.F ht⟩) hS1.2.2 hdg hlocks
end STARTS
/-! an array's cell: only its places count -/
theorem arrV_cong (cA : ClassId) (n : Nat) (f g : Nat → Value) (h : ∀ j, j < n → f j = g j) : arrV cA n f = arrV cA n g := by
  unfold arrV
  congr 1
  apply Array.ext
  · simp
  · intro i h1 h2
    simp at h1
    simp [h i h1]
theorem vp_cong_i {cA : ClassId} {n : Nat} {f g : Nat → Int32} (h : ∀ j, j < n → f j = g j) : vp_cell cA (n, .inl f) = vp_cell cA (n, .inl g) := by
  rw [vp_cell_i, vp_cell_i]
  exact arrV_cong _ _ _ _ (fun j hj => by rw [h j hj])
theorem vP_row {D : va_G} {ws : va_W} {H : Heap} (hP : va_P D vwCl ws H) (k : Nat) {a : Nat} {cA : ClassId} {n : Nat} {f g : Nat → Int32} (hk : ws[k]? = some (a, .inl (cA, n, .inl f))) (h : ∀ j, j < n → f j = g j) : va_P D vwCl (ws.set k (a, .inl (cA, n, .inl g))) H := by
  have hl := (List.getElem?_eq_some_iff.mp hk).1
  intro i q hi
  by_cases hik : i = k
  · subst hik
    rw [List.getElem?_set_self hl] at hi
    cases hi
    have := hP i _ hk
    show H[a]? = some (vp_cell cA (n, .inl g))
    rw [← vp_cong_i h]
    exact this
  · rw [List.getElem?_set_ne (Ne.symm hik)] at hi
    exact hP i q hi
/-! values of desks, states, texts: rows of numbers -/
def mkD (r0 r1 r2 r3 r4 r5 : Nat → Int32) (c g : Int32) : RV := fun k => match k with
  | 0 => r0
  | 1 => r1
  | 2 => r2
  | 3 => r3
  | 4 => r4
  | 5 => r5
  | 6 => fun _ => c
  | _ => fun _ => g
def mkO (r0 r1 r2 r3 r4 : Nat → Int32) (c0 c1 c2 c3 c4 : Int32) : RV := fun k => match k with
  | 0 => r0
  | 1 => r1
  | 2 => r2
  | 3 => r3
  | 4 => r4
  | 5 => fun _ => c0
  | 6 => fun _ => c1
  | 7 => fun _ => c2
  | 8 => fun _ => c3
  | _ => fun _ => c4
def mkT (r0 r1 r2 : Nat → Int32) (c0 c1 c2 c3 c4 : Int32) : RV := fun k => match k with
  | 0 => r0
  | 1 => r1
  | 2 => r2
  | 3 => fun _ => c0
  | 4 => fun _ => c1
  | 5 => fun _ => c2
  | 6 => fun _ => c3
  | _ => fun _ => c4
abbrev SV : Type := RV × RV × RV
/-- the cells of a desk: 0 the object, 1 to 6 its rows -/
def cD (cy : Nat → ClassId) (a : Nat → Nat) (w : RV) : va_W :=
  [(a 0, .inr (0, [.ref (a 1), .ref (a 2), .ref (a 3), .ref (a 4), .ref (a 5), .ref (a 6), .int (w 6 0), .int (w 7 0)])),
   (a 1, .inl (cy 0, 3, .inl (w 0))), (a 2, .inl (cy 0, 64, .inl (w 1))), (a 3, .inl (cy 0, 64, .inl (w 2))), (a 4, .inl (cy 0, 64, .inl (w 3))), (a 5, .inl (cy 0, 64, .inl (w 4))), (a 6, .inl (cy 0, 26, .inl (w 5)))]
/-- a state's own cells: 0 the object, 2 the row of its desks -/
def cO (cy : Nat → ClassId) (a : Nat → Nat → Nat) (o : RV) : va_W :=
  [(a 0 0, .inr (2, [.ref (a 0 1), .ref (a 0 2), .ref (a 0 3), .ref (a 0 4), .ref (a 0 5), .ref (a 0 6), .int (o 5 0), .int (o 6 0), .int (o 7 0), .int (o 8 0), .int (o 9 0)])),
   (a 0 1, .inl (cy 0, 3, .inl (o 0))), (a 0 2, .inl (cy 2, 2, .inr (.inr (.inr (.inr (fun d => if d = 0 then some (a 1 0) else some (a 2 0))))))), (a 0 3, .inl (cy 0, 26, .inl (o 1))), (a 0 4, .inl (cy 0, 26, .inl (o 2))), (a 0 5, .inl (cy 0, 26, .inl (o 3))), (a 0 6, .inl (cy 0, 26, .inl (o 4)))]
def bS (cy : Nat → ClassId) (a : Nat → Nat → Nat) (v : SV) : List va_W := [cO cy a v.1, cD cy (a 1) v.2.1, cD cy (a 2) v.2.2]
def cS (cy : Nat → ClassId) (a : Nat → Nat → Nat) (v : SV) : va_W := (bS cy a v).flatten
def cT (cy : Nat → ClassId) (a : Nat → Nat) (x : RV) : va_W :=
  [(a 0, .inr (3, [.ref (a 1), .int (x 3 0), .ref (a 2), .int (x 4 0), .ref (a 3), .int (x 5 0), .int (x 6 0), .int (x 7 0)])),
   (a 1, .inl (cy 0, 80, .inl (x 0))), (a 2, .inl (cy 0, 300, .inl (x 1))), (a 3, .inl (cy 0, 4, .inl (x 2)))]
theorem pmI {α : Type} (l : List α) : l.Perm (l ++ []) := by rw [List.append_nil]
/-! rows of their own -/
section XR
variable {p : Program} {l : Launch} {e : Env} {R : Room} {s : State} {m : MethodId} {args : Array Value} {below : List Frame} {meth : Method} {c : Code} {H : Heap} {locs : List Loc} {cells slots : Nat} {Q : State → Prop}
variable {cc : ByteArray} {pc : Nat} {ls : Array Slot} {rest : List Value} {D : va_G} {cl : List vw_C} {A : Nat → Prop} {a : Nat} {tys : List (ClassId × FieldType)} {ws : va_W} {H0 : Heap}
theorem x_iald (hexec : p.tables.exec = Jvm.exec) (hb : c.code = cc) (hK : va_K D cl tys s) (hP : va_P D cl ws H) (q0 t0 : Nat) {cA : ClassId} {n j : Nat} {f : Nat → Int32} (ha : ws[q0]? = some (a, .inl (cA, n, .inl f))) (ht : tys[t0]? = some (cA, .int)) {i : Int32} (hj : i.toNatClampNeg = j) (hin : vp_in i n) (hdg : decode cc pc = .ok (.iaload, 1))
    (kk : W p l e R s m args below meth c H locs cells slots Q (F0 m (pc + 1) ls (.int (f j) :: rest))) : W p l e R s m args below meth c H locs cells slots Q (F0 m pc ls (.int i :: .ref a :: rest)) := by
  subst hj
  exact va_iald hexec hb hK hP q0 t0 ha ht hin hdg kk
theorem x_iast (hexec : p.tables.exec = Jvm.exec) (hb : c.code = cc) (hK : va_K D cl tys s) (hP : va_P D cl ws H) (hD : va_D A ws) (hS : va_S A H0 H locs) (q0 t0 : Nat) {cA : ClassId} {n j : Nat} {f : Nat → Int32} (ha : ws[q0]? = some (a, .inl (cA, n, .inl f))) (ht : tys[t0]? = some (cA, .int)) {i : Int32} {x : Int32} (hj : i.toNatClampNeg = j) (hin : vp_in i n) (hdg : decode cc pc = .ok (.iastore, 1))
    (kk : ∀ (H1 : Heap) (locs1 : List Loc), va_P D cl (ws.set q0 (a, .inl (cA, n, .inl (upd f j x)))) H1 → va_D A (ws.set q0 (a, .inl (cA, n, .inl (upd f j x)))) → va_S A H0 H1 locs1 → W p l e R s m args below meth c H1 locs1 cells slots Q (F0 m (pc + 1) ls rest)) : W p l e R s m args below meth c H locs cells slots Q (F0 m pc ls (.int x :: .int i :: .ref a :: rest)) := by
  subst hj
  exact va_iast hexec hb hK hP hD hS q0 t0 ha ht hin hdg kk
theorem x_aldq (hexec : p.tables.exec = Jvm.exec) (hb : c.code = cc) (hK : va_K D cl tys s) (hP : va_P D cl ws H) (q0 t0 : Nat) {cA : ClassId} {C : String} {n : Nat} {f : Nat → Option Nat} (ha : ws[q0]? = some (a, .inl (cA, n, .inr (.inr (.inr (.inr f)))))) (ht : tys[t0]? = some (cA, .object C)) {i : Int32} (hin : vp_in i n) {v : Value} (hv : va_rf (f i.toNatClampNeg) = v) (hdg : decode cc pc = .ok (.aaload, 1))
    (kk : W p l e R s m args below meth c H locs cells slots Q (F0 m (pc + 1) ls (v :: rest))) : W p l e R s m args below meth c H locs cells slots Q (F0 m pc ls (.int i :: .ref a :: rest)) := by
  subst hv
  exact va_aldq hexec hb hK hP q0 t0 ha ht hin hdg kk
theorem cpy_row {f g : Nat → Int32} {N : Nat} : ∀ j, j < N → va_cpy f g 0 0 N j = f j := by
  intro j hj
  unfold va_cpy
  rw [if_pos ⟨Nat.zero_le _, by omega⟩]
  congr 1
  omega
theorem set_set' {α : Type} : ∀ (l : List α) (i : Nat) (x y : α), (l.set i x).set i y = l.set i y
  | [], i, x, y => rfl
  | b :: t, 0, x, y => rfl
  | b :: t, i + 1, x, y => by
    show b :: (t.set i x).set i y = b :: t.set i y
    rw [set_set' t i x y]
theorem x_cpy (hexec : p.tables.exec = Jvm.exec) (hb : c.code = cc) (hml : c.maxLocals = ls.size) {own : String} {index : Nat} (hown : s.vm.findClass own = some m.cls) (hlink : (Cond.methodLink own index arraycopyName).before args s = true) (hnat : (Cond.native arraycopyName).before args s = true) (hstat : (Cond.static arraycopyName).before args s = true) (hini : (Cond.initialized "java/lang/System").before args s = true)
    (hK : va_K D vwCl tys s) (hP : va_P D vwCl ws H) (hD : va_D A ws) (hS : va_S A H0 H locs) (q0 q1 t0 : Nat) {a0 N : Nat} {cI : ClassId} {f g : Nat → Int32} (ha0 : ws[q0]? = some (a0, .inl (cI, N, .inl f))) (ha1 : ws[q1]? = some (a, .inl (cI, N, .inl g))) (ht0 : tys[t0]? = some (cI, .int)) {n : Int32} (hn : n.toNatClampNeg = N) (hn0 : ¬ n < 0)
    (hframes : 1 ≤ R.frames) (hlocals : (rest.map fun v => v.category).sum + (nativeFrameWords "java/lang/System" "arraycopy" 5 + 11) ≤ R.locals) (hdg : decode cc pc = .ok (.invokestatic index, 3))
    (kk : ∀ (H1 : Heap) (locs1 : List Loc), va_P D vwCl (ws.set q1 (a, .inl (cI, N, .inl f))) H1 → va_D A (ws.set q1 (a, .inl (cI, N, .inl f))) → va_S A H0 H1 locs1 → W p l e R s m args below meth c H1 locs1 cells slots Q (F0 m (pc + 3) ls rest)) : W p l e R s m args below meth c H locs cells slots Q (F0 m pc ls (.int n :: .int 0 :: .ref a :: .int 0 :: .ref a0 :: rest)) := by
  refine va_copyi hexec hb hml hown hlink hnat hstat hini hK hP hD hS q0 q1 t0 t0 ha0 ha1 ht0 ht0 rfl (by decide) (by decide) hn0 (by rw [hn]; simp) (by rw [hn]; simp) (fun i hi => rfl) hframes hlocals hdg (fun H1 locs1 hP1 hD1 hS1 => ?_)
  have hl := (List.getElem?_eq_some_iff.mp ha1).1
  have e0 : (0 : Int32).toNatClampNeg = 0 := rfl
  rw [hn, e0] at hP1 hD1
  have h2 := vP_row hP1 q1 (g := f) (List.getElem?_set_self hl) (fun j hj => cpy_row j hj)
  rw [set_set'] at h2
  have h3 := va_D.set (e := .inl (cI, N, .inl f)) hD1 (List.getElem?_set_self hl)
  rw [set_set'] at h3
  exact kk H1 locs1 h2 h3 hS1
end XR
/-! java.util.Arrays.fill(int[], int) -/
abbrev rFill : Room := { frames := 0, cells := 0, slots := 0, locals := 0 }
set_option maxHeartbeats 4000000 in
set_option maxRecDepth 100000 in
theorem c_fill (l : Launch) (D : va_G) (cy : Nat → ClassId) (a n : Nat) (f : Nat → Int32) (v : Int32) (sz : Nat) (hn : n < 2 ^ 31) : CN l yJ7_fill_53178 wsJ7_fill_53178 rFill D cy [.ref a, .int v] [(a, .inl (cy 0, n, .inl f))] sz [(a, .inl (cy 0, n, .inl (fun _ => v)))] 0 0 := by
  refine st_n (cc := cJ7_fill_53178) (maxL := 4) (by decide) rfl (Nat.le_of_ble_eq_true rfl) ?_
  intro pp e s m below meth c A Q ls hx hb hts hown hml hlocks hsz hP hK hD hE hA hl hret
  subst hsz
  have hl : lv_has ls 4 [(0, .ref a), (1, .int v)] := hl
  have hS : va_S A s.heap s.heap [] := va_S.rf
  have hloop : ∀ (k i : Nat) (g : Nat → Int32), i + k = n → (∀ j, j < i → g j = v) → ∀ (H : Heap) (locs : List Loc), va_P D vwCl [(a, .inl (cy 0, n, .inl g))] H → va_D A [(a, .inl (cy 0, n, .inl g))] → va_S A s.heap H locs → ∀ ls : Array Slot, lv_has ls 4 [(2, .int (nI i)), (3, .int (nI n)), (0, .ref a), (1, .int v)] →
      W pp l e rFill s m ([.ref a, .int v] : List Value).toArray below meth c H locs 0 0 Q (F0 m 5 ls []) := by
    intro k
    induction k with
    | zero =>
      intro i g hi hg H locs hP hD hS ls hl
      have hin : i = n := by omega
      refine lv_iload_n hx hb dJ7_fill_53178_5 rfl (lv_at hl 0 rfl) ?_
      refine lv_iload_n hx hb dJ7_fill_53178_6 rfl (lv_at hl 1 rfl) ?_
      refine lv_icmp_ge (tgt := 20) hx hb dJ7_fill_53178_7 (by decide) (fun c1 => ?_) (fun c1 => absurd (by rw [hin]; exact Int32.le_refl _) c1)
      have hP2 := vP_row hP 0 (g := fun _ => v) rfl (fun j hj => hg j (by omega))
      have hD2 := va_D.set (e := .inl (cy 0, n, .inl (fun _ => v))) hD (p := 0) rfl
      exact hret H locs _ ls hP2 hD2 hS dJ7_fill_53178_20
    | succ k ih =>
      intro i g hi hg H locs hP hD hS ls hl
      refine lv_iload_n hx hb dJ7_fill_53178_5 rfl (lv_at hl 0 rfl) ?_
      refine lv_iload_n hx hb dJ7_fill_53178_6 rfl (lv_at hl 1 rfl) ?_
      refine lv_icmp_ge (tgt := 20) hx hb dJ7_fill_53178_7 (by decide) (fun c1 => absurd c1 (nI_ge (by omega) hn)) (fun c1 => ?_)
      refine lv_aload_n hx hb dJ7_fill_53178_10 rfl (lv_at hl 2 rfl) ?_
      refine lv_iload_n hx hb dJ7_fill_53178_11 rfl (lv_at hl 0 rfl) ?_
      refine lv_iload_n hx hb dJ7_fill_53178_12 rfl (lv_at hl 3 rfl) ?_
      refine x_iast (j := i) hx hb hK hP hD hS 0 0 rfl rfl (nI_clamp (by omega)) (vp_in_nI (by omega) hn) dJ7_fill_53178_13 (fun H locs hP hD hS => ?_)
      refine lv_iinc (v := nI (i + 1)) (lv' := [(2, .int (nI (i + 1))), (3, .int (nI n)), (0, .ref a), (1, .int v)]) hx hb dJ7_fill_53178_14 hl (k := 0) rfl (nI_1 i) (by decide) rfl (fun ls hl => ?_)
      refine lv_goto (tgt := 5) hx hb dJ7_fill_53178_17 (by decide) ?_
      refine ih (i + 1) (upd g i v) (by omega) (fun j hj => ?_) H locs hP hD hS ls hl
      unfold upd
      by_cases hji : j = i
      · rw [if_pos hji]
      · rw [if_neg hji]
        exact hg j (by omega)
  refine lv_iconst (v := 0) hx hb dJ7_fill_53178_0 (by decide) ?_
  refine lv_istore_n (lv' := [(2, .int 0), (0, .ref a), (1, .int v)]) hx hb dJ7_fill_53178_1 rfl hl (by decide) rfl (fun ls hl => ?_)
  refine lv_aload_n hx hb dJ7_fill_53178_2 rfl (lv_at hl 1 rfl) ?_
  refine va_alen hx hb hK hP 0 0 rfl rfl (v := nI n) rfl dJ7_fill_53178_3 ?_
  refine lv_istore_n (lv' := [(3, .int (nI n)), (2, .int 0), (0, .ref a), (1, .int v)]) hx hb dJ7_fill_53178_4 rfl hl (by decide) rfl (fun ls hl => ?_)
  exact hloop n 0 f (by omega) (fun j hj => absurd hj (Nat.not_lt_zero j)) s.heap [] hP hD hS ls (lv_sub hl [1, 0, 2, 3] rfl)
section XF
variable {p : Program} {l : Launch} {e : Env} {R : Room} {s : State} {m : MethodId} {args : Array Value} {below : List Frame} {meth : Method} {c : Code} {H : Heap} {locs : List Loc} {cells slots : Nat} {Q : State → Prop}
variable {cc : ByteArray} {pc : Nat} {ls : Array Slot} {rest : List Value} {D : va_G} {cy : Nat → ClassId} {A : Nat → Prop} {ws : va_W}
theorem x_fill {Ts : List Cond} {own : String} {index nL : Nat} (S : CallFix p m c cc nL s args Ts own) (cw : CallB R s args own index yJ7_fill_53178 cJ7_fill_53178 4 none wsJ7_fill_53178 rFill 0 0 2 ∧ (Cond.static yJ7_fill_53178).before args s = true)
    (hK : va_K D vwCl (ty4 cy) s) (hP : va_P D vwCl ws H) (hD : va_D A ws) (hS : va_S A s.heap H locs) (hA : ∀ q, s.heap.size ≤ q → A q) (hE : Ev A s s.heap) (q0 : Nat) {a n : Nat} {f : Nat → Int32} {v : Int32} (ha : ws[q0]? = some (a, .inl (cy 0, n, .inl f))) (hn : n < 2 ^ 31)
    (hsize : ls.size = nL) (hW : 2 * (F0 m pc ls (.int v :: .ref a :: rest)).monitorRoom + (rest.map fun v => v.category).sum ≤ 8) (hdg : decode cc pc = .ok (.invokestatic index, 3)) (hf : cells + 0 ≤ R.cells ∧ slots + 0 ≤ R.slots)
    (kk : ∀ (H1 : Heap) (locs1 : List Loc), va_P D vwCl (ws.set q0 (a, .inl (cy 0, n, .inl (fun _ => v)))) H1 → va_D A (ws.set q0 (a, .inl (cy 0, n, .inl (fun _ => v)))) → va_S A s.heap H1 locs1 → W p l e R s m args below meth c H1 locs1 cells slots Q (F0 m (pc + 3) ls rest)) : W p l e R s m args below meth c H locs cells slots Q (F0 m pc ls (.int v :: .ref a :: rest)) := by
  have hp := pmC ws q0 _ (a, (.inl (cy 0, n, .inl (fun _ => v)) : va_E)) ha
  have hp1 : ws.Perm ([(a, (.inl (cy 0, n, .inl f) : va_E))] ++ ws.eraseIdx q0) := hp.1
  refine cl_n (va_runS (As := [.ref a, .int v]) (rest := rest) S (c_fill l D cy a n f v H.size hn) cw ⟨blU, preU hP hD hp1 hK hE hS hA⟩ rfl rfl hsize rfl hW hdg hf) hP hD hp1 hS hA (fun H1 locs1 hP1 hD1 hS1 => ?_)
  exact kk H1 locs1 (vP_perm hP1 hp.2) (vD_perm hD1 hp.2) hS1
end XF
/-! numbers -/
theorem fa_le' (a b : Int32) : a ≤ b ↔ a.toInt ≤ b.toInt := Int32.le_iff_toInt_le
theorem fa_lt' (a b : Int32) : a < b ↔ a.toInt < b.toInt := Int32.lt_iff_toInt_lt
theorem tncn (y : Int32) : (y.toNatClampNeg : Int) = max y.toInt 0 := by
  show (y.toInt.toNat : Int) = _
  first | exact Int.ofNat_toNat _ | exact Int.toNat_eq_max _ | omega
end
section
/-! ===== Desk ===== -/
theorem vp_c {x : Int32} {n : Nat} (h : ¬ (x < 0 ∨ n ≤ x.toNatClampNeg)) : vp_in x n := h
theorem sw_out2 (x : Int32) (h0 : ¬ x = 0) (h1 : ¬ x = 1) : x.toInt < 0 ∨ 1 < x.toInt := by
  have a0 : ¬ x.toInt = 0 := lv_neT h0 rfl
  have a1 : ¬ x.toInt = 1 := lv_neT h1 rfl
  omega
theorem sw_out4 (x : Int32) (h0 : ¬ x = 0) (h1 : ¬ x = 1) (h2 : ¬ x = 2) (h3 : ¬ x = 3) : x.toInt < 0 ∨ 3 < x.toInt := by
  have a0 : ¬ x.toInt = 0 := lv_neT h0 rfl
  have a1 : ¬ x.toInt = 1 := lv_neT h1 rfl
  have a2 : ¬ x.toInt = 2 := lv_neT h2 rfl
  have a3 : ¬ x.toInt = 3 := lv_neT h3 rfl
  omega
theorem sw_out5 (x : Int32) (h0 : ¬ x = 0) (h1 : ¬ x = 1) (h2 : ¬ x = 2) (h3 : ¬ x = 3) (h4 : ¬ x = 4) : x.toInt < 0 ∨ 4 < x.toInt := by
  have a0 : ¬ x.toInt = 0 := lv_neT h0 rfl
  have a1 : ¬ x.toInt = 1 := lv_neT h1 rfl
  have a2 : ¬ x.toInt = 2 := lv_neT h2 rfl
  have a3 : ¬ x.toInt = 3 := lv_neT h3 rfl
  have a4 : ¬ x.toInt = 4 := lv_neT h4 rfl
  omega
theorem sw_out10 (x : Int32) (h0 : ¬ x = 0) (h1 : ¬ x = 1) (h2 : ¬ x = 2) (h3 : ¬ x = 3) (h4 : ¬ x = 4) (h5 : ¬ x = 5) (h6 : ¬ x = 6) (h7 : ¬ x = 7) (h8 : ¬ x = 8) (h9 : ¬ x = 9) : x.toInt < 0 ∨ 9 < x.toInt := by
  have a0 : ¬ x.toInt = 0 := lv_neT h0 rfl
  have a1 : ¬ x.toInt = 1 := lv_neT h1 rfl
  have a2 : ¬ x.toInt = 2 := lv_neT h2 rfl
  have a3 : ¬ x.toInt = 3 := lv_neT h3 rfl
  have a4 : ¬ x.toInt = 4 := lv_neT h4 rfl
  have a5 : ¬ x.toInt = 5 := lv_neT h5 rfl
  have a6 : ¬ x.toInt = 6 := lv_neT h6 rfl
  have a7 : ¬ x.toInt = 7 := lv_neT h7 rfl
  have a8 : ¬ x.toInt = 8 := lv_neT h8 rfl
  have a9 : ¬ x.toInt = 9 := lv_neT h9 rfl
  omega
theorem sw_out18 (x : Int32) (h0 : ¬ x = 0) (h1 : ¬ x = 1) (h2 : ¬ x = 2) (h3 : ¬ x = 3) (h4 : ¬ x = 4) (h5 : ¬ x = 5) (h6 : ¬ x = 6) (h7 : ¬ x = 7) (h8 : ¬ x = 8) (h9 : ¬ x = 9) (h10 : ¬ x = 10) (h11 : ¬ x = 11) (h12 : ¬ x = 12) (h13 : ¬ x = 13) (h14 : ¬ x = 14) (h15 : ¬ x = 15) (h16 : ¬ x = 16) (h17 : ¬ x = 17) : x.toInt < 0 ∨ 17 < x.toInt := by
  have a0 : ¬ x.toInt = 0 := lv_neT h0 rfl
  have a1 : ¬ x.toInt = 1 := lv_neT h1 rfl
  have a2 : ¬ x.toInt = 2 := lv_neT h2 rfl
  have a3 : ¬ x.toInt = 3 := lv_neT h3 rfl
  have a4 : ¬ x.toInt = 4 := lv_neT h4 rfl
  have a5 : ¬ x.toInt = 5 := lv_neT h5 rfl
  have a6 : ¬ x.toInt = 6 := lv_neT h6 rfl
  have a7 : ¬ x.toInt = 7 := lv_neT h7 rfl
  have a8 : ¬ x.toInt = 8 := lv_neT h8 rfl
  have a9 : ¬ x.toInt = 9 := lv_neT h9 rfl
  have a10 : ¬ x.toInt = 10 := lv_neT h10 rfl
  have a11 : ¬ x.toInt = 11 := lv_neT h11 rfl
  have a12 : ¬ x.toInt = 12 := lv_neT h12 rfl
  have a13 : ¬ x.toInt = 13 := lv_neT h13 rfl
  have a14 : ¬ x.toInt = 14 := lv_neT h14 rfl
  have a15 : ¬ x.toInt = 15 := lv_neT h15 rfl
  have a16 : ¬ x.toInt = 16 := lv_neT h16 rfl
  have a17 : ¬ x.toInt = 17 := lv_neT h17 rfl
  omega
theorem sw1_out9 (x : Int32) (h0 : ¬ x = 1) (h1 : ¬ x = 2) (h2 : ¬ x = 3) (h3 : ¬ x = 4) (h4 : ¬ x = 5) (h5 : ¬ x = 6) (h6 : ¬ x = 7) (h7 : ¬ x = 8) (h8 : ¬ x = 9) : x.toInt < 1 ∨ 9 < x.toInt := by
  have a0 : ¬ x.toInt = 1 := lv_neT h0 rfl
  have a1 : ¬ x.toInt = 2 := lv_neT h1 rfl
  have a2 : ¬ x.toInt = 3 := lv_neT h2 rfl
  have a3 : ¬ x.toInt = 4 := lv_neT h3 rfl
  have a4 : ¬ x.toInt = 5 := lv_neT h4 rfl
  have a5 : ¬ x.toInt = 6 := lv_neT h5 rfl
  have a6 : ¬ x.toInt = 7 := lv_neT h6 rfl
  have a7 : ¬ x.toInt = 8 := lv_neT h7 rfl
  have a8 : ¬ x.toInt = 9 := lv_neT h8 rfl
  omega
def r_X0_pathFor (w : RV) (pl : Int32) : Int32 := ((w 5) (if ((w 0) 2) = (1 : Int32) then pl else (0 : Int32)).toNatClampNeg)
abbrev rX0_pathFor : Room := { frames := 0, cells := 0, slots := 0, locals := 0 }
theorem inX0_pathFor_X0 : ∀ w ∈ u_ws RX0 TX0 8, w ∈ wsX0_pathFor := by decide +kernel
set_option maxHeartbeats 4000000 in
set_option maxRecDepth 100000 in
/-- the path of a place -/
theorem c_X0_pathFor (l : Launch) (D : va_G) (cy : Nat → ClassId) (a : Nat → Nat) (w : RV) (pl : Int32) (sz : Nat) (hpl : vp_in pl 26) : CI l yX0_pathFor wsX0_pathFor rX0_pathFor D cy [.ref (a 0), .int pl] (cD cy a w) sz (r_X0_pathFor w pl) (cD cy a w) 0 0 := by
  refine st_i (ty := .int) (cc := cX0_pathFor) (maxL := 2) (by decide) rfl rfl (Nat.le_of_ble_eq_true rfl) ?_
  intro pp e s m below meth c A Q ls hx hb hts hown hml hlocks hsz hP hK hD hE hA hl hret
  subst hsz
  have hown : s.vm.findClass RX0 = some m.cls := hown
  have hl : lv_has ls 2 [(0, .ref (a 0)), (1, .int pl)] := hl
  obtain ⟨H, hH⟩ : ∃ H, H = s.heap := ⟨_, rfl⟩
  rw [← hH] at hP ⊢
  have hS : va_S A s.heap H [] := by rw [hH]; exact va_S.rf
  obtain ⟨locs, hlo⟩ : ∃ locs : List Loc, locs = [] := ⟨_, rfl⟩
  rw [← hlo] at hS ⊢
  refine lv_aload_n hx hb dX0_pathFor_0 rfl (lv_at hl 0 rfl) ?_
  refine va_get (D := D) (ci := 0) (v := .ref (a 6)) (C := RX0) (T := TX0) (N := 8) hx hb hts inX0_pathFor_X0 hown hK hP 0 rfl rfl 5 (by decide) (hts _ (List.mem_of_getElem? (i := 1) rfl)) (fun _ h9 => h9) rfl dX0_pathFor_1 ?_
  refine lv_aload_n hx hb dX0_pathFor_4 rfl (lv_at hl 0 rfl) ?_
  refine va_get (D := D) (ci := 0) (v := .ref (a 1)) (C := RX0) (T := TX0) (N := 8) hx hb hts inX0_pathFor_X0 hown hK hP 0 rfl rfl 0 (by decide) (hts _ (List.mem_of_getElem? (i := 2) rfl)) (fun _ h9 => h9) rfl dX0_pathFor_5 ?_
  refine lv_iconst (v := 2) hx hb dX0_pathFor_8 (by decide) ?_
  refine x_iald (f := (w 0)) (j := 2) hx hb hK hP 1 0 rfl rfl rfl (vp_c (by decide)) dX0_pathFor_9 ?_
  refine lv_iconst (v := 1) hx hb dX0_pathFor_10 (by decide) ?_
  have J19_2 : ∀ (z_2 : Int32) (hz_2 : z_2 = (if ((w 0) 2) = (1 : Int32) then pl else (0 : Int32))) (H : Heap) (locs : List Loc), va_P D vwCl (cD cy a w) H → va_D A (cD cy a w) → va_S A s.heap H locs → ∀ ls : Array Slot, lv_has ls 2 [(0, .ref (a 0)), (1, .int pl)] → W pp l e rX0_pathFor s m ([.ref (a 0), .int pl] : List Value).toArray below meth c H locs 0 0 Q (F0 m 19 ls [.int z_2, .ref (a 6)]) := by
    intro z_2 hz_2 H locs hP hD hS ls hl
    subst hz_2
    refine x_iald (f := (w 5)) (j := (if ((w 0) 2) = (1 : Int32) then pl else (0 : Int32)).toNatClampNeg) hx hb hK hP 6 0 rfl rfl rfl (by split <;> first | exact hpl | exact vp_c (by decide)) dX0_pathFor_19 ?_
    have hr9 : ((w 5) (if ((w 0) 2) = (1 : Int32) then pl else (0 : Int32)).toNatClampNeg) = (r_X0_pathFor w pl) := by rfl
    exact hret _ H locs _ ls hr9 hP hD hS dX0_pathFor_20
  refine lv_icmp_ne (tgt := 18) hx hb dX0_pathFor_11 (by decide) (fun c_1 => ?_) (fun c_1 => ?_)
  · refine lv_iconst (v := 0) hx hb dX0_pathFor_18 (by decide) ?_
    exact J19_2 (0 : Int32) (by simp only [if_neg c_1]) H locs hP hD hS ls (lv_sub hl [0, 1] rfl)
  · refine lv_iload_n hx hb dX0_pathFor_14 rfl (lv_at hl 1 rfl) ?_
    refine lv_goto (tgt := 19) hx hb dX0_pathFor_15 (by decide) ?_
    exact J19_2 pl (by simp only [if_pos c_1]) H locs hP hD hS ls (lv_sub hl [0, 1] rfl)

def r_X0_noteFor (w : RV) (pl : Int32) (sz2 : Int32) : Int32 := ((if ((w 0) 0) = 0 then pl else (if ((w 0) 0) = 1 then (r_X0_pathFor w pl) else (if ((w 0) 0) = 2 then (pl + (r_X0_pathFor w pl)) else (if ((w 0) 0) = 3 then (pl ^^^ (r_X0_pathFor w pl)) else ((pl <<< (((w 0) 1) &&& 31)) + (r_X0_pathFor w pl)))))) &&& (((1 : Int32) <<< (sz2 &&& 31)) - (1 : Int32)))
abbrev rX0_noteFor : Room := { frames := 1, cells := 0, slots := 0, locals := 21 }
theorem inX0_noteFor_X0 : ∀ w ∈ u_ws RX0 TX0 8, w ∈ wsX0_noteFor := by decide +kernel
set_option maxHeartbeats 4000000 in
set_option maxRecDepth 100000 in
/-- the note for a place -/
theorem c_X0_noteFor (l : Launch) (D : va_G) (cy : Nat → ClassId) (a : Nat → Nat) (w : RV) (pl : Int32) (sz2 : Int32) (sz : Nat) (hpl : vp_in pl 26) : CI l yX0_noteFor wsX0_noteFor rX0_noteFor D cy [.ref (a 0), .int pl, .int sz2] (cD cy a w) sz (r_X0_noteFor w pl sz2) (cD cy a w) 0 0 := by
  refine st_i (ty := .int) (cc := cX0_noteFor) (maxL := 5) (by decide) rfl rfl (Nat.le_of_ble_eq_true rfl) ?_
  intro pp e s m below meth c A Q ls hx hb hts hown hml hlocks hsz hP hK hD hE hA hl hret
  subst hsz
  have hown : s.vm.findClass RX0 = some m.cls := hown
  have hl : lv_has ls 5 [(0, .ref (a 0)), (1, .int pl), (2, .int sz2)] := hl
  obtain ⟨H, hH⟩ : ∃ H, H = s.heap := ⟨_, rfl⟩
  rw [← hH] at hP ⊢
  have hS : va_S A s.heap H [] := by rw [hH]; exact va_S.rf
  obtain ⟨locs, hlo⟩ : ∃ locs : List Loc, locs = [] := ⟨_, rfl⟩
  rw [← hlo] at hS ⊢
  refine lv_aload_n hx hb dX0_noteFor_0 rfl (lv_at hl 0 rfl) ?_
  refine lv_iload_n hx hb dX0_noteFor_1 rfl (lv_at hl 1 rfl) ?_
  refine cl_i (va_runV (As := [.int pl]) (rest := []) ⟨hx, hb, hml, hown, hts⟩ (c_X0_pathFor l D cy a w pl H.size hpl) (cwV 1 hts gX0_noteFor_X0_pathFor rfl rfl rfl (by decide +kernel) ⟨Nat.le_of_ble_eq_true rfl, Nat.le_of_ble_eq_true rfl⟩) ⟨blU, va_recv hK hP (ci := 0) (q0 := 0) rfl rfl, preU hP hD (pmI _) hK hE hS hA⟩ rfl rfl hl.1 rfl (lv_room (Nat.le_of_ble_eq_true rfl)) dX0_noteFor_2 ⟨Nat.le_of_ble_eq_true rfl, Nat.le_of_ble_eq_true rfl⟩) hP hD (pmI _) hS hA (fun H locs hP hD hS => ?_)
  have hP : va_P D vwCl (cD cy a w) H := vP_perm hP (pmI _).symm
  have hD : va_D A (cD cy a w) := vD_perm hD (pmI _).symm
  refine lv_istore_n (lv' := [(3, .int (r_X0_pathFor w pl)), (0, .ref (a 0)), (1, .int pl), (2, .int sz2)]) hx hb dX0_noteFor_5 rfl hl (by decide) rfl (fun ls hl => ?_)
  refine lv_aload_n hx hb dX0_noteFor_6 rfl (lv_at hl 1 rfl) ?_
  refine va_get (D := D) (ci := 0) (v := .ref (a 1)) (C := RX0) (T := TX0) (N := 8) hx hb hts inX0_noteFor_X0 hown hK hP 0 rfl rfl 0 (by decide) (hts _ (List.mem_of_getElem? (i := 1) rfl)) (fun _ h9 => h9) rfl dX0_noteFor_7 ?_
  refine lv_iconst (v := 0) hx hb dX0_noteFor_10 (by decide) ?_
  refine x_iald (f := (w 0)) (j := 0) hx hb hK hP 1 0 rfl rfl rfl (vp_c (by decide)) dX0_noteFor_11 ?_
  have J84_5 : ∀ (z_5 : Int32) (hz_5 : z_5 = (if ((w 0) 0) = 0 then pl else (if ((w 0) 0) = 1 then (r_X0_pathFor w pl) else (if ((w 0) 0) = 2 then (pl + (r_X0_pathFor w pl)) else (if ((w 0) 0) = 3 then (pl ^^^ (r_X0_pathFor w pl)) else ((pl <<< (((w 0) 1) &&& 31)) + (r_X0_pathFor w pl))))))) (H : Heap) (locs : List Loc), va_P D vwCl (cD cy a w) H → va_D A (cD cy a w) → va_S A s.heap H locs → ∀ ls : Array Slot, lv_has ls 5 [(0, .ref (a 0)), (1, .int pl), (2, .int sz2), (3, .int (r_X0_pathFor w pl)), (4, .int z_5)] → W pp l e rX0_noteFor s m ([.ref (a 0), .int pl, .int sz2] : List Value).toArray below meth c H locs 0 0 Q (F0 m 84 ls []) := by
    intro z_5 hz_5 H locs hP hD hS ls hl
    subst hz_5
    refine lv_iload hx hb dX0_noteFor_84 (lv_at hl 4 rfl) ?_
    refine lv_iconst (v := 1) hx hb dX0_noteFor_86 (by decide) ?_
    refine lv_iload_n hx hb dX0_noteFor_87 rfl (lv_at hl 2 rfl) ?_
    refine lv_ishl hx hb dX0_noteFor_88 ?_
    refine lv_iconst (v := 1) hx hb dX0_noteFor_89 (by decide) ?_
    refine lv_isub hx hb dX0_noteFor_90 ?_
    refine lv_iand hx hb dX0_noteFor_91 ?_
    have hr9 : ((if ((w 0) 0) = 0 then pl else (if ((w 0) 0) = 1 then (r_X0_pathFor w pl) else (if ((w 0) 0) = 2 then (pl + (r_X0_pathFor w pl)) else (if ((w 0) 0) = 3 then (pl ^^^ (r_X0_pathFor w pl)) else ((pl <<< (((w 0) 1) &&& 31)) + (r_X0_pathFor w pl)))))) &&& (((1 : Int32) <<< (sz2 &&& 31)) - (1 : Int32))) = (r_X0_noteFor w pl sz2) := by rfl
    exact hret _ H locs _ ls hr9 hP hD hS dX0_noteFor_92
  by_cases c_1 : ((w 0) 0) = 0
  · refine lv_tableIn (tgt := 44) (off := 32) hx hb dX0_noteFor_12 (by rw [c_1]; decide) (by rw [c_1]; decide) (by rw [c_1]; rfl) (by decide) ?_
    refine lv_iload_n hx hb dX0_noteFor_44 rfl (lv_at hl 2 rfl) ?_
    refine lv_istore (lv' := [(4, .int pl), (3, .int (r_X0_pathFor w pl)), (0, .ref (a 0)), (1, .int pl), (2, .int sz2)]) hx hb dX0_noteFor_45 hl (by decide) rfl (fun ls hl => ?_)
    refine lv_goto (tgt := 84) hx hb dX0_noteFor_47 (by decide) ?_
    exact J84_5 pl (by simp only [if_pos c_1]) H locs hP hD hS ls (lv_sub hl [2, 3, 4, 1, 0] rfl)
  · by_cases c_2 : ((w 0) 0) = 1
    · refine lv_tableIn (tgt := 50) (off := 38) hx hb dX0_noteFor_12 (by rw [c_2]; decide) (by rw [c_2]; decide) (by rw [c_2]; rfl) (by decide) ?_
      refine lv_iload_n hx hb dX0_noteFor_50 rfl (lv_at hl 0 rfl) ?_
      refine lv_istore (lv' := [(4, .int (r_X0_pathFor w pl)), (3, .int (r_X0_pathFor w pl)), (0, .ref (a 0)), (1, .int pl), (2, .int sz2)]) hx hb dX0_noteFor_51 hl (by decide) rfl (fun ls hl => ?_)
      refine lv_goto (tgt := 84) hx hb dX0_noteFor_53 (by decide) ?_
      exact J84_5 (r_X0_pathFor w pl) (by simp only [if_neg c_1, if_pos c_2]) H locs hP hD hS ls (lv_sub hl [2, 3, 4, 1, 0] rfl)
    · by_cases c_3 : ((w 0) 0) = 2
      · refine lv_tableIn (tgt := 56) (off := 44) hx hb dX0_noteFor_12 (by rw [c_3]; decide) (by rw [c_3]; decide) (by rw [c_3]; rfl) (by decide) ?_
        refine lv_iload_n hx hb dX0_noteFor_56 rfl (lv_at hl 2 rfl) ?_
        refine lv_iload_n hx hb dX0_noteFor_57 rfl (lv_at hl 0 rfl) ?_
        refine lv_iadd hx hb dX0_noteFor_58 ?_
        refine lv_istore (lv' := [(4, .int (pl + (r_X0_pathFor w pl))), (3, .int (r_X0_pathFor w pl)), (0, .ref (a 0)), (1, .int pl), (2, .int sz2)]) hx hb dX0_noteFor_59 hl (by decide) rfl (fun ls hl => ?_)
        refine lv_goto (tgt := 84) hx hb dX0_noteFor_61 (by decide) ?_
        exact J84_5 (pl + (r_X0_pathFor w pl)) (by simp only [if_neg c_1, if_neg c_2, if_pos c_3]) H locs hP hD hS ls (lv_sub hl [2, 3, 4, 1, 0] rfl)
      · by_cases c_4 : ((w 0) 0) = 3
        · refine lv_tableIn (tgt := 64) (off := 52) hx hb dX0_noteFor_12 (by rw [c_4]; decide) (by rw [c_4]; decide) (by rw [c_4]; rfl) (by decide) ?_
          refine lv_iload_n hx hb dX0_noteFor_64 rfl (lv_at hl 2 rfl) ?_
          refine lv_iload_n hx hb dX0_noteFor_65 rfl (lv_at hl 0 rfl) ?_
          refine lv_ixor hx hb dX0_noteFor_66 ?_
          refine lv_istore (lv' := [(4, .int (pl ^^^ (r_X0_pathFor w pl))), (3, .int (r_X0_pathFor w pl)), (0, .ref (a 0)), (1, .int pl), (2, .int sz2)]) hx hb dX0_noteFor_67 hl (by decide) rfl (fun ls hl => ?_)
          refine lv_goto (tgt := 84) hx hb dX0_noteFor_69 (by decide) ?_
          exact J84_5 (pl ^^^ (r_X0_pathFor w pl)) (by simp only [if_neg c_1, if_neg c_2, if_neg c_3, if_pos c_4]) H locs hP hD hS ls (lv_sub hl [2, 3, 4, 1, 0] rfl)
        · have hso : ((w 0) 0).toInt < 0 ∨ 3 < ((w 0) 0).toInt := sw_out4 ((w 0) 0) c_1 c_2 c_3 c_4
          refine lv_tableOut (tgt := 72) hx hb dX0_noteFor_12 hso (by decide) ?_
          refine lv_iload_n hx hb dX0_noteFor_72 rfl (lv_at hl 2 rfl) ?_
          refine lv_aload_n hx hb dX0_noteFor_73 rfl (lv_at hl 1 rfl) ?_
          refine va_get (D := D) (ci := 0) (v := .ref (a 1)) (C := RX0) (T := TX0) (N := 8) hx hb hts inX0_noteFor_X0 hown hK hP 0 rfl rfl 0 (by decide) (hts _ (List.mem_of_getElem? (i := 1) rfl)) (fun _ h9 => h9) rfl dX0_noteFor_74 ?_
          refine lv_iconst (v := 1) hx hb dX0_noteFor_77 (by decide) ?_
          refine x_iald (f := (w 0)) (j := 1) hx hb hK hP 1 0 rfl rfl rfl (vp_c (by decide)) dX0_noteFor_78 ?_
          refine lv_ishl hx hb dX0_noteFor_79 ?_
          refine lv_iload_n hx hb dX0_noteFor_80 rfl (lv_at hl 0 rfl) ?_
          refine lv_iadd hx hb dX0_noteFor_81 ?_
          refine lv_istore (lv' := [(4, .int ((pl <<< (((w 0) 1) &&& 31)) + (r_X0_pathFor w pl))), (3, .int (r_X0_pathFor w pl)), (0, .ref (a 0)), (1, .int pl), (2, .int sz2)]) hx hb dX0_noteFor_82 hl (by decide) rfl (fun ls hl => ?_)
          exact J84_5 ((pl <<< (((w 0) 1) &&& 31)) + (r_X0_pathFor w pl)) (by simp only [if_neg c_1, if_neg c_2, if_neg c_3, if_neg c_4]) H locs hP hD hS ls (lv_sub hl [2, 3, 4, 1, 0] rfl)

def w_X0_changePath (w : RV) (pl : Int32) (tk : Int32) : RV := (mkD (w 0) (w 1) (w 2) (w 3) (w 4) (upd (w 5) (if ((w 0) 2) = (1 : Int32) then pl else (0 : Int32)).toNatClampNeg ((((2 : Int32) * (r_X0_pathFor w pl)) + (if tk = 0 then (0 : Int32) else (1 : Int32))) &&& (((1 : Int32) <<< (((w 0) 1) &&& 31)) - (1 : Int32)))) (w 6 0) (w 7 0))
abbrev rX0_changePath : Room := { frames := 1, cells := 0, slots := 0, locals := 21 }
theorem inX0_changePath_X0 : ∀ w ∈ u_ws RX0 TX0 8, w ∈ wsX0_changePath := by decide +kernel
set_option maxHeartbeats 4000000 in
set_option maxRecDepth 100000 in
theorem c_X0_changePath (l : Launch) (D : va_G) (cy : Nat → ClassId) (a : Nat → Nat) (w : RV) (pl : Int32) (tk : Int32) (sz : Nat) (hpl : vp_in pl 26) : CN l yX0_changePath wsX0_changePath rX0_changePath D cy [.ref (a 0), .int pl, .int tk] (cD cy a w) sz (cD cy a (w_X0_changePath w pl tk)) 0 0 := by
  refine st_n (cc := cX0_changePath) (maxL := 4) (by decide) rfl (Nat.le_of_ble_eq_true rfl) ?_
  intro pp e s m below meth c A Q ls hx hb hts hown hml hlocks hsz hP hK hD hE hA hl hret
  subst hsz
  have hown : s.vm.findClass RX0 = some m.cls := hown
  have hl : lv_has ls 4 [(0, .ref (a 0)), (1, .int pl), (2, .int tk)] := hl
  obtain ⟨H, hH⟩ : ∃ H, H = s.heap := ⟨_, rfl⟩
  rw [← hH] at hP ⊢
  have hS : va_S A s.heap H [] := by rw [hH]; exact va_S.rf
  obtain ⟨locs, hlo⟩ : ∃ locs : List Loc, locs = [] := ⟨_, rfl⟩
  rw [← hlo] at hS ⊢
  refine lv_iconst (v := 2) hx hb dX0_changePath_0 (by decide) ?_
  refine lv_aload_n hx hb dX0_changePath_1 rfl (lv_at hl 0 rfl) ?_
  refine lv_iload_n hx hb dX0_changePath_2 rfl (lv_at hl 1 rfl) ?_
  refine cl_i (va_runV (As := [.int pl]) (rest := [.int (2 : Int32)]) ⟨hx, hb, hml, hown, hts⟩ (c_X0_pathFor l D cy a w pl H.size hpl) (cwV 1 hts gX0_changePath_X0_pathFor rfl rfl rfl (by decide +kernel) ⟨Nat.le_of_ble_eq_true rfl, Nat.le_of_ble_eq_true rfl⟩) ⟨blU, va_recv hK hP (ci := 0) (q0 := 0) rfl rfl, preU hP hD (pmI _) hK hE hS hA⟩ rfl rfl hl.1 rfl (lv_room (Nat.le_of_ble_eq_true rfl)) dX0_changePath_3 ⟨Nat.le_of_ble_eq_true rfl, Nat.le_of_ble_eq_true rfl⟩) hP hD (pmI _) hS hA (fun H locs hP hD hS => ?_)
  have hP : va_P D vwCl (cD cy a w) H := vP_perm hP (pmI _).symm
  have hD : va_D A (cD cy a w) := vD_perm hD (pmI _).symm
  refine lv_imul hx hb dX0_changePath_6 ?_
  refine lv_iload_n hx hb dX0_changePath_7 rfl (lv_at hl 2 rfl) ?_
  have J16_2 : ∀ (z_2 : Int32) (hz_2 : z_2 = (if tk = 0 then (0 : Int32) else (1 : Int32))) (H : Heap) (locs : List Loc), va_P D vwCl (cD cy a w) H → va_D A (cD cy a w) → va_S A s.heap H locs → ∀ ls : Array Slot, lv_has ls 4 [(0, .ref (a 0)), (1, .int pl), (2, .int tk)] → W pp l e rX0_changePath s m ([.ref (a 0), .int pl, .int tk] : List Value).toArray below meth c H locs 0 0 Q (F0 m 16 ls [.int z_2, .int ((2 : Int32) * (r_X0_pathFor w pl))]) := by
    intro z_2 hz_2 H locs hP hD hS ls hl
    subst hz_2
    refine lv_iadd hx hb dX0_changePath_16 ?_
    refine lv_istore_n (lv' := [(3, .int (((2 : Int32) * (r_X0_pathFor w pl)) + (if tk = 0 then (0 : Int32) else (1 : Int32)))), (0, .ref (a 0)), (1, .int pl), (2, .int tk)]) hx hb dX0_changePath_17 rfl hl (by decide) rfl (fun ls hl => ?_)
    refine lv_aload_n hx hb dX0_changePath_18 rfl (lv_at hl 1 rfl) ?_
    refine va_get (D := D) (ci := 0) (v := .ref (a 6)) (C := RX0) (T := TX0) (N := 8) hx hb hts inX0_changePath_X0 hown hK hP 0 rfl rfl 5 (by decide) (hts _ (List.mem_of_getElem? (i := 1) rfl)) (fun _ h9 => h9) rfl dX0_changePath_19 ?_
    refine lv_aload_n hx hb dX0_changePath_22 rfl (lv_at hl 1 rfl) ?_
    refine va_get (D := D) (ci := 0) (v := .ref (a 1)) (C := RX0) (T := TX0) (N := 8) hx hb hts inX0_changePath_X0 hown hK hP 0 rfl rfl 0 (by decide) (hts _ (List.mem_of_getElem? (i := 2) rfl)) (fun _ h9 => h9) rfl dX0_changePath_23 ?_
    refine lv_iconst (v := 2) hx hb dX0_changePath_26 (by decide) ?_
    refine x_iald (f := (w 0)) (j := 2) hx hb hK hP 1 0 rfl rfl rfl (vp_c (by decide)) dX0_changePath_27 ?_
    refine lv_iconst (v := 1) hx hb dX0_changePath_28 (by decide) ?_
    have J37_5 : ∀ (z_5 : Int32) (hz_5 : z_5 = (if ((w 0) 2) = (1 : Int32) then pl else (0 : Int32))) (H : Heap) (locs : List Loc), va_P D vwCl (cD cy a w) H → va_D A (cD cy a w) → va_S A s.heap H locs → ∀ ls : Array Slot, lv_has ls 4 [(0, .ref (a 0)), (1, .int pl), (2, .int tk), (3, .int (((2 : Int32) * (r_X0_pathFor w pl)) + (if tk = 0 then (0 : Int32) else (1 : Int32))))] → W pp l e rX0_changePath s m ([.ref (a 0), .int pl, .int tk] : List Value).toArray below meth c H locs 0 0 Q (F0 m 37 ls [.int z_5, .ref (a 6)]) := by
      intro z_5 hz_5 H locs hP hD hS ls hl
      subst hz_5
      refine lv_iload_n hx hb dX0_changePath_37 rfl (lv_at hl 3 rfl) ?_
      refine lv_iconst (v := 1) hx hb dX0_changePath_38 (by decide) ?_
      refine lv_aload_n hx hb dX0_changePath_39 rfl (lv_at hl 0 rfl) ?_
      refine va_get (D := D) (ci := 0) (v := .ref (a 1)) (C := RX0) (T := TX0) (N := 8) hx hb hts inX0_changePath_X0 hown hK hP 0 rfl rfl 0 (by decide) (hts _ (List.mem_of_getElem? (i := 2) rfl)) (fun _ h9 => h9) rfl dX0_changePath_40 ?_
      refine lv_iconst (v := 1) hx hb dX0_changePath_43 (by decide) ?_
      refine x_iald (f := (w 0)) (j := 1) hx hb hK hP 1 0 rfl rfl rfl (vp_c (by decide)) dX0_changePath_44 ?_
      refine lv_ishl hx hb dX0_changePath_45 ?_
      refine lv_iconst (v := 1) hx hb dX0_changePath_46 (by decide) ?_
      refine lv_isub hx hb dX0_changePath_47 ?_
      refine lv_iand hx hb dX0_changePath_48 ?_
      refine x_iast (j := (if ((w 0) 2) = (1 : Int32) then pl else (0 : Int32)).toNatClampNeg) hx hb hK hP hD hS 6 0 rfl rfl rfl (by split <;> first | exact hpl | exact vp_c (by decide)) dX0_changePath_49 (fun H locs hP hD hS => ?_)
      have hP : va_P D vwCl (cD cy a (mkD (w 0) (w 1) (w 2) (w 3) (w 4) (upd (w 5) (if ((w 0) 2) = (1 : Int32) then pl else (0 : Int32)).toNatClampNeg ((((2 : Int32) * (r_X0_pathFor w pl)) + (if tk = 0 then (0 : Int32) else (1 : Int32))) &&& (((1 : Int32) <<< (((w 0) 1) &&& 31)) - (1 : Int32)))) (w 6 0) (w 7 0))) H := hP
      have hD : va_D A (cD cy a (mkD (w 0) (w 1) (w 2) (w 3) (w 4) (upd (w 5) (if ((w 0) 2) = (1 : Int32) then pl else (0 : Int32)).toNatClampNeg ((((2 : Int32) * (r_X0_pathFor w pl)) + (if tk = 0 then (0 : Int32) else (1 : Int32))) &&& (((1 : Int32) <<< (((w 0) 1) &&& 31)) - (1 : Int32)))) (w 6 0) (w 7 0))) := hD
      have hw9 : (w_X0_changePath w pl tk) = (mkD (w 0) (w 1) (w 2) (w 3) (w 4) (upd (w 5) (if ((w 0) 2) = (1 : Int32) then pl else (0 : Int32)).toNatClampNeg ((((2 : Int32) * (r_X0_pathFor w pl)) + (if tk = 0 then (0 : Int32) else (1 : Int32))) &&& (((1 : Int32) <<< (((w 0) 1) &&& 31)) - (1 : Int32)))) (w 6 0) (w 7 0)) := by rfl
      exact hret H locs _ ls (by rw [hw9]; exact hP) (by rw [hw9]; exact hD) hS dX0_changePath_50
    refine lv_icmp_ne (tgt := 36) hx hb dX0_changePath_29 (by decide) (fun c_4 => ?_) (fun c_4 => ?_)
    · refine lv_iconst (v := 0) hx hb dX0_changePath_36 (by decide) ?_
      exact J37_5 (0 : Int32) (by simp only [if_neg c_4]) H locs hP hD hS ls (lv_sub hl [1, 2, 3, 0] rfl)
    · refine lv_iload_n hx hb dX0_changePath_32 rfl (lv_at hl 2 rfl) ?_
      refine lv_goto (tgt := 37) hx hb dX0_changePath_33 (by decide) ?_
      exact J37_5 pl (by simp only [if_pos c_4]) H locs hP hD hS ls (lv_sub hl [1, 2, 3, 0] rfl)
  refine lv_if_eq (tgt := 15) hx hb dX0_changePath_8 (by decide) (fun c_1 => ?_) (fun c_1 => ?_)
  · refine lv_iconst (v := 0) hx hb dX0_changePath_15 (by decide) ?_
    exact J16_2 (0 : Int32) (by simp only [if_pos c_1]) H locs hP hD hS ls (lv_sub hl [0, 1, 2] rfl)
  · refine lv_iconst (v := 1) hx hb dX0_changePath_11 (by decide) ?_
    refine lv_goto (tgt := 16) hx hb dX0_changePath_12 (by decide) ?_
    exact J16_2 (1 : Int32) (by simp only [if_neg c_1]) H locs hP hD hS ls (lv_sub hl [0, 1, 2] rfl)

def w_X0_use (w : RV) (i : Int32) (pl : Int32) (tk : Int32) (mid : Int32) : RV := (mkD (w 0) (if tk = 0 then (upd (w 1) i.toNatClampNeg (if (((w 1) i.toNatClampNeg) - (1 : Int32)) < (0 : Int32) then (0 : Int32) else (((w 1) i.toNatClampNeg) - (1 : Int32)))) else (upd (w 1) i.toNatClampNeg (if (((2 : Int32) * mid) - (1 : Int32)) < (((w 1) i.toNatClampNeg) + (1 : Int32)) then (((2 : Int32) * mid) - (1 : Int32)) else (((w 1) i.toNatClampNeg) + (1 : Int32))))) (upd (w 2) i.toNatClampNeg pl) (upd (w 3) i.toNatClampNeg (((w 3) i.toNatClampNeg) + (1 : Int32))) (if (if ((w 1) i.toNatClampNeg) < mid then (0 : Int32) else (1 : Int32)) = tk then (upd (w 4) i.toNatClampNeg (((w 4) i.toNatClampNeg) + (1 : Int32))) else (w 4)) (w 5) (if ((w 3) i.toNatClampNeg) ≤ 0 then (w 6 0) else (if ((w 2) i.toNatClampNeg) = pl then (w 6 0) else ((w 6 0) + (1 : Int32)))) (if (if ((w 1) i.toNatClampNeg) < mid then (0 : Int32) else (1 : Int32)) = tk then ((w 7 0) + (1 : Int32)) else (w 7 0)))
abbrev rX0_use : Room := { frames := 1, cells := 0, slots := 0, locals := 24 }
theorem inX0_use_X0 : ∀ w ∈ u_ws RX0 TX0 8, w ∈ wsX0_use := by decide +kernel
set_option maxHeartbeats 4000000 in
set_option maxRecDepth 100000 in
theorem c_X0_use (l : Launch) (D : va_G) (cy : Nat → ClassId) (a : Nat → Nat) (w : RV) (i : Int32) (pl : Int32) (tk : Int32) (mid : Int32) (sz : Nat) (hi : vp_in i 64) : CN l yX0_use wsX0_use rX0_use D cy [.ref (a 0), .int i, .int pl, .int tk, .int mid] (cD cy a w) sz (cD cy a (w_X0_use w i pl tk mid)) 0 0 := by
  refine st_n (cc := cX0_use) (maxL := 5) (by decide) rfl (Nat.le_of_ble_eq_true rfl) ?_
  intro pp e s m below meth c A Q ls hx hb hts hown hml hlocks hsz hP hK hD hE hA hl hret
  subst hsz
  have hown : s.vm.findClass RX0 = some m.cls := hown
  have hl : lv_has ls 5 [(0, .ref (a 0)), (1, .int i), (2, .int pl), (3, .int tk), (4, .int mid)] := hl
  obtain ⟨H, hH⟩ : ∃ H, H = s.heap := ⟨_, rfl⟩
  rw [← hH] at hP ⊢
  have hS : va_S A s.heap H [] := by rw [hH]; exact va_S.rf
  obtain ⟨locs, hlo⟩ : ∃ locs : List Loc, locs = [] := ⟨_, rfl⟩
  rw [← hlo] at hS ⊢
  refine lv_aload_n hx hb dX0_use_0 rfl (lv_at hl 0 rfl) ?_
  refine va_get (D := D) (ci := 0) (v := .ref (a 4)) (C := RX0) (T := TX0) (N := 8) hx hb hts inX0_use_X0 hown hK hP 0 rfl rfl 3 (by decide) (hts _ (List.mem_of_getElem? (i := 1) rfl)) (fun _ h9 => h9) rfl dX0_use_1 ?_
  refine lv_iload_n hx hb dX0_use_4 rfl (lv_at hl 1 rfl) ?_
  refine x_iald (f := (w 3)) (j := i.toNatClampNeg) hx hb hK hP 4 0 rfl rfl rfl hi dX0_use_5 ?_
  have J29_2 : ∀ (z_2 : Int32) (hz_2 : z_2 = (if ((w 3) i.toNatClampNeg) ≤ 0 then (w 6 0) else (if ((w 2) i.toNatClampNeg) = pl then (w 6 0) else ((w 6 0) + (1 : Int32))))) (H : Heap) (locs : List Loc), va_P D vwCl (cD cy a (mkD (w 0) (w 1) (w 2) (w 3) (w 4) (w 5) z_2 (w 7 0))) H → va_D A (cD cy a (mkD (w 0) (w 1) (w 2) (w 3) (w 4) (w 5) z_2 (w 7 0))) → va_S A s.heap H locs → ∀ ls : Array Slot, lv_has ls 5 [(0, .ref (a 0)), (1, .int i), (2, .int pl), (3, .int tk), (4, .int mid)] → W pp l e rX0_use s m ([.ref (a 0), .int i, .int pl, .int tk, .int mid] : List Value).toArray below meth c H locs 0 0 Q (F0 m 29 ls []) := by
    intro z_2 hz_2 H locs hP hD hS ls hl
    subst hz_2
    refine lv_aload_n hx hb dX0_use_29 rfl (lv_at hl 0 rfl) ?_
    refine va_get (D := D) (ci := 0) (v := .ref (a 4)) (C := RX0) (T := TX0) (N := 8) hx hb hts inX0_use_X0 hown hK hP 0 rfl rfl 3 (by decide) (hts _ (List.mem_of_getElem? (i := 1) rfl)) (fun _ h9 => h9) rfl dX0_use_30 ?_
    refine lv_iload_n hx hb dX0_use_33 rfl (lv_at hl 1 rfl) ?_
    refine lv_dup2_11 hx hb dX0_use_34 rfl rfl ?_
    refine x_iald (f := (w 3)) (j := i.toNatClampNeg) hx hb hK hP 4 0 rfl rfl rfl hi dX0_use_35 ?_
    refine lv_iconst (v := 1) hx hb dX0_use_36 (by decide) ?_
    refine lv_iadd hx hb dX0_use_37 ?_
    refine x_iast (j := i.toNatClampNeg) hx hb hK hP hD hS 4 0 rfl rfl rfl hi dX0_use_38 (fun H locs hP hD hS => ?_)
    have hP : va_P D vwCl (cD cy a (mkD (w 0) (w 1) (w 2) (upd (w 3) i.toNatClampNeg (((w 3) i.toNatClampNeg) + (1 : Int32))) (w 4) (w 5) (if ((w 3) i.toNatClampNeg) ≤ 0 then (w 6 0) else (if ((w 2) i.toNatClampNeg) = pl then (w 6 0) else ((w 6 0) + (1 : Int32)))) (w 7 0))) H := hP
    have hD : va_D A (cD cy a (mkD (w 0) (w 1) (w 2) (upd (w 3) i.toNatClampNeg (((w 3) i.toNatClampNeg) + (1 : Int32))) (w 4) (w 5) (if ((w 3) i.toNatClampNeg) ≤ 0 then (w 6 0) else (if ((w 2) i.toNatClampNeg) = pl then (w 6 0) else ((w 6 0) + (1 : Int32)))) (w 7 0))) := hD
    refine lv_aload_n hx hb dX0_use_39 rfl (lv_at hl 0 rfl) ?_
    refine va_get (D := D) (ci := 0) (v := .ref (a 3)) (C := RX0) (T := TX0) (N := 8) hx hb hts inX0_use_X0 hown hK hP 0 rfl rfl 2 (by decide) (hts _ (List.mem_of_getElem? (i := 2) rfl)) (fun _ h9 => h9) rfl dX0_use_40 ?_
    refine lv_iload_n hx hb dX0_use_43 rfl (lv_at hl 1 rfl) ?_
    refine lv_iload_n hx hb dX0_use_44 rfl (lv_at hl 2 rfl) ?_
    refine x_iast (j := i.toNatClampNeg) hx hb hK hP hD hS 3 0 rfl rfl rfl hi dX0_use_45 (fun H locs hP hD hS => ?_)
    have hP : va_P D vwCl (cD cy a (mkD (w 0) (w 1) (upd (w 2) i.toNatClampNeg pl) (upd (w 3) i.toNatClampNeg (((w 3) i.toNatClampNeg) + (1 : Int32))) (w 4) (w 5) (if ((w 3) i.toNatClampNeg) ≤ 0 then (w 6 0) else (if ((w 2) i.toNatClampNeg) = pl then (w 6 0) else ((w 6 0) + (1 : Int32)))) (w 7 0))) H := hP
    have hD : va_D A (cD cy a (mkD (w 0) (w 1) (upd (w 2) i.toNatClampNeg pl) (upd (w 3) i.toNatClampNeg (((w 3) i.toNatClampNeg) + (1 : Int32))) (w 4) (w 5) (if ((w 3) i.toNatClampNeg) ≤ 0 then (w 6 0) else (if ((w 2) i.toNatClampNeg) = pl then (w 6 0) else ((w 6 0) + (1 : Int32)))) (w 7 0))) := hD
    refine lv_aload_n hx hb dX0_use_46 rfl (lv_at hl 0 rfl) ?_
    refine va_get (D := D) (ci := 0) (v := .ref (a 2)) (C := RX0) (T := TX0) (N := 8) hx hb hts inX0_use_X0 hown hK hP 0 rfl rfl 1 (by decide) (hts _ (List.mem_of_getElem? (i := 4) rfl)) (fun _ h9 => h9) rfl dX0_use_47 ?_
    refine lv_iload_n hx hb dX0_use_50 rfl (lv_at hl 1 rfl) ?_
    refine x_iald (f := (w 1)) (j := i.toNatClampNeg) hx hb hK hP 2 0 rfl rfl rfl hi dX0_use_51 ?_
    refine lv_iload hx hb dX0_use_52 (lv_at hl 4 rfl) ?_
    have J62_5 : ∀ (z_5 : Int32) (hz_5 : z_5 = (if ((w 1) i.toNatClampNeg) < mid then (0 : Int32) else (1 : Int32))) (H : Heap) (locs : List Loc), va_P D vwCl (cD cy a (mkD (w 0) (w 1) (upd (w 2) i.toNatClampNeg pl) (upd (w 3) i.toNatClampNeg (((w 3) i.toNatClampNeg) + (1 : Int32))) (w 4) (w 5) (if ((w 3) i.toNatClampNeg) ≤ 0 then (w 6 0) else (if ((w 2) i.toNatClampNeg) = pl then (w 6 0) else ((w 6 0) + (1 : Int32)))) (w 7 0))) H → va_D A (cD cy a (mkD (w 0) (w 1) (upd (w 2) i.toNatClampNeg pl) (upd (w 3) i.toNatClampNeg (((w 3) i.toNatClampNeg) + (1 : Int32))) (w 4) (w 5) (if ((w 3) i.toNatClampNeg) ≤ 0 then (w 6 0) else (if ((w 2) i.toNatClampNeg) = pl then (w 6 0) else ((w 6 0) + (1 : Int32)))) (w 7 0))) → va_S A s.heap H locs → ∀ ls : Array Slot, lv_has ls 5 [(0, .ref (a 0)), (1, .int i), (2, .int pl), (3, .int tk), (4, .int mid)] → W pp l e rX0_use s m ([.ref (a 0), .int i, .int pl, .int tk, .int mid] : List Value).toArray below meth c H locs 0 0 Q (F0 m 62 ls [.int z_5]) := by
      intro z_5 hz_5 H locs hP hD hS ls hl
      subst hz_5
      refine lv_iload_n hx hb dX0_use_62 rfl (lv_at hl 3 rfl) ?_
      have J86_9 : ∀ (z_8 : Nat → Int32) (hz_8 : z_8 = (if (if ((w 1) i.toNatClampNeg) < mid then (0 : Int32) else (1 : Int32)) = tk then (upd (w 4) i.toNatClampNeg (((w 4) i.toNatClampNeg) + (1 : Int32))) else (w 4))) (z_9 : Int32) (hz_9 : z_9 = (if (if ((w 1) i.toNatClampNeg) < mid then (0 : Int32) else (1 : Int32)) = tk then ((w 7 0) + (1 : Int32)) else (w 7 0))) (H : Heap) (locs : List Loc), va_P D vwCl (cD cy a (mkD (w 0) (w 1) (upd (w 2) i.toNatClampNeg pl) (upd (w 3) i.toNatClampNeg (((w 3) i.toNatClampNeg) + (1 : Int32))) z_8 (w 5) (if ((w 3) i.toNatClampNeg) ≤ 0 then (w 6 0) else (if ((w 2) i.toNatClampNeg) = pl then (w 6 0) else ((w 6 0) + (1 : Int32)))) z_9)) H → va_D A (cD cy a (mkD (w 0) (w 1) (upd (w 2) i.toNatClampNeg pl) (upd (w 3) i.toNatClampNeg (((w 3) i.toNatClampNeg) + (1 : Int32))) z_8 (w 5) (if ((w 3) i.toNatClampNeg) ≤ 0 then (w 6 0) else (if ((w 2) i.toNatClampNeg) = pl then (w 6 0) else ((w 6 0) + (1 : Int32)))) z_9)) → va_S A s.heap H locs → ∀ ls : Array Slot, lv_has ls 5 [(0, .ref (a 0)), (1, .int i), (2, .int pl), (3, .int tk), (4, .int mid)] → W pp l e rX0_use s m ([.ref (a 0), .int i, .int pl, .int tk, .int mid] : List Value).toArray below meth c H locs 0 0 Q (F0 m 86 ls []) := by
        intro z_8 hz_8 z_9 hz_9 H locs hP hD hS ls hl
        subst hz_8
        subst hz_9
        refine lv_iload_n hx hb dX0_use_86 rfl (lv_at hl 3 rfl) ?_
        have J134_12 : ∀ (z_12 : Nat → Int32) (hz_12 : z_12 = (if tk = 0 then (upd (w 1) i.toNatClampNeg (if (((w 1) i.toNatClampNeg) - (1 : Int32)) < (0 : Int32) then (0 : Int32) else (((w 1) i.toNatClampNeg) - (1 : Int32)))) else (upd (w 1) i.toNatClampNeg (if (((2 : Int32) * mid) - (1 : Int32)) < (((w 1) i.toNatClampNeg) + (1 : Int32)) then (((2 : Int32) * mid) - (1 : Int32)) else (((w 1) i.toNatClampNeg) + (1 : Int32)))))) (H : Heap) (locs : List Loc), va_P D vwCl (cD cy a (mkD (w 0) z_12 (upd (w 2) i.toNatClampNeg pl) (upd (w 3) i.toNatClampNeg (((w 3) i.toNatClampNeg) + (1 : Int32))) (if (if ((w 1) i.toNatClampNeg) < mid then (0 : Int32) else (1 : Int32)) = tk then (upd (w 4) i.toNatClampNeg (((w 4) i.toNatClampNeg) + (1 : Int32))) else (w 4)) (w 5) (if ((w 3) i.toNatClampNeg) ≤ 0 then (w 6 0) else (if ((w 2) i.toNatClampNeg) = pl then (w 6 0) else ((w 6 0) + (1 : Int32)))) (if (if ((w 1) i.toNatClampNeg) < mid then (0 : Int32) else (1 : Int32)) = tk then ((w 7 0) + (1 : Int32)) else (w 7 0)))) H → va_D A (cD cy a (mkD (w 0) z_12 (upd (w 2) i.toNatClampNeg pl) (upd (w 3) i.toNatClampNeg (((w 3) i.toNatClampNeg) + (1 : Int32))) (if (if ((w 1) i.toNatClampNeg) < mid then (0 : Int32) else (1 : Int32)) = tk then (upd (w 4) i.toNatClampNeg (((w 4) i.toNatClampNeg) + (1 : Int32))) else (w 4)) (w 5) (if ((w 3) i.toNatClampNeg) ≤ 0 then (w 6 0) else (if ((w 2) i.toNatClampNeg) = pl then (w 6 0) else ((w 6 0) + (1 : Int32)))) (if (if ((w 1) i.toNatClampNeg) < mid then (0 : Int32) else (1 : Int32)) = tk then ((w 7 0) + (1 : Int32)) else (w 7 0)))) → va_S A s.heap H locs → ∀ ls : Array Slot, lv_has ls 5 [(0, .ref (a 0)), (1, .int i), (2, .int pl), (3, .int tk), (4, .int mid)] → W pp l e rX0_use s m ([.ref (a 0), .int i, .int pl, .int tk, .int mid] : List Value).toArray below meth c H locs 0 0 Q (F0 m 134 ls []) := by
          intro z_12 hz_12 H locs hP hD hS ls hl
          subst hz_12
          have hw9 : (w_X0_use w i pl tk mid) = (mkD (w 0) (if tk = 0 then (upd (w 1) i.toNatClampNeg (if (((w 1) i.toNatClampNeg) - (1 : Int32)) < (0 : Int32) then (0 : Int32) else (((w 1) i.toNatClampNeg) - (1 : Int32)))) else (upd (w 1) i.toNatClampNeg (if (((2 : Int32) * mid) - (1 : Int32)) < (((w 1) i.toNatClampNeg) + (1 : Int32)) then (((2 : Int32) * mid) - (1 : Int32)) else (((w 1) i.toNatClampNeg) + (1 : Int32))))) (upd (w 2) i.toNatClampNeg pl) (upd (w 3) i.toNatClampNeg (((w 3) i.toNatClampNeg) + (1 : Int32))) (if (if ((w 1) i.toNatClampNeg) < mid then (0 : Int32) else (1 : Int32)) = tk then (upd (w 4) i.toNatClampNeg (((w 4) i.toNatClampNeg) + (1 : Int32))) else (w 4)) (w 5) (if ((w 3) i.toNatClampNeg) ≤ 0 then (w 6 0) else (if ((w 2) i.toNatClampNeg) = pl then (w 6 0) else ((w 6 0) + (1 : Int32)))) (if (if ((w 1) i.toNatClampNeg) < mid then (0 : Int32) else (1 : Int32)) = tk then ((w 7 0) + (1 : Int32)) else (w 7 0))) := by rfl
          exact hret H locs _ ls (by rw [hw9]; exact hP) (by rw [hw9]; exact hD) hS dX0_use_134
        refine lv_if_eq (tgt := 116) hx hb dX0_use_87 (by decide) (fun c_11 => ?_) (fun c_11 => ?_)
        · refine lv_aload_n hx hb dX0_use_116 rfl (lv_at hl 0 rfl) ?_
          refine va_get (D := D) (ci := 0) (v := .ref (a 2)) (C := RX0) (T := TX0) (N := 8) hx hb hts inX0_use_X0 hown hK hP 0 rfl rfl 1 (by decide) (hts _ (List.mem_of_getElem? (i := 4) rfl)) (fun _ h9 => h9) rfl dX0_use_117 ?_
          refine lv_iload_n hx hb dX0_use_120 rfl (lv_at hl 1 rfl) ?_
          refine lv_aload_n hx hb dX0_use_121 rfl (lv_at hl 0 rfl) ?_
          refine va_get (D := D) (ci := 0) (v := .ref (a 2)) (C := RX0) (T := TX0) (N := 8) hx hb hts inX0_use_X0 hown hK hP 0 rfl rfl 1 (by decide) (hts _ (List.mem_of_getElem? (i := 4) rfl)) (fun _ h9 => h9) rfl dX0_use_122 ?_
          refine lv_iload_n hx hb dX0_use_125 rfl (lv_at hl 1 rfl) ?_
          refine x_iald (f := (w 1)) (j := i.toNatClampNeg) hx hb hK hP 2 0 rfl rfl rfl hi dX0_use_126 ?_
          refine lv_iconst (v := 1) hx hb dX0_use_127 (by decide) ?_
          refine lv_isub hx hb dX0_use_128 ?_
          refine lv_iconst (v := 0) hx hb dX0_use_129 (by decide) ?_
          refine va_mmax hx hb (hml.trans hl.1.symm) hown (hts _ (List.mem_of_getElem? (i := 11) rfl)) (hts _ (List.mem_of_getElem? (i := 12) rfl)) (hts _ (List.mem_of_getElem? (i := 9) rfl)) (hts _ (List.mem_of_getElem? (i := 13) rfl)) (Nat.le_of_ble_eq_true rfl) (Nat.le_of_ble_eq_true rfl) (Nat.le_of_ble_eq_true rfl) (Nat.le_of_ble_eq_true rfl) dX0_use_130 ?_
          refine x_iast (j := i.toNatClampNeg) hx hb hK hP hD hS 2 0 rfl rfl rfl hi dX0_use_133 (fun H locs hP hD hS => ?_)
          have hP : va_P D vwCl (cD cy a (mkD (w 0) (upd (w 1) i.toNatClampNeg (if (((w 1) i.toNatClampNeg) - (1 : Int32)) < (0 : Int32) then (0 : Int32) else (((w 1) i.toNatClampNeg) - (1 : Int32)))) (upd (w 2) i.toNatClampNeg pl) (upd (w 3) i.toNatClampNeg (((w 3) i.toNatClampNeg) + (1 : Int32))) (if (if ((w 1) i.toNatClampNeg) < mid then (0 : Int32) else (1 : Int32)) = tk then (upd (w 4) i.toNatClampNeg (((w 4) i.toNatClampNeg) + (1 : Int32))) else (w 4)) (w 5) (if ((w 3) i.toNatClampNeg) ≤ 0 then (w 6 0) else (if ((w 2) i.toNatClampNeg) = pl then (w 6 0) else ((w 6 0) + (1 : Int32)))) (if (if ((w 1) i.toNatClampNeg) < mid then (0 : Int32) else (1 : Int32)) = tk then ((w 7 0) + (1 : Int32)) else (w 7 0)))) H := hP
          have hD : va_D A (cD cy a (mkD (w 0) (upd (w 1) i.toNatClampNeg (if (((w 1) i.toNatClampNeg) - (1 : Int32)) < (0 : Int32) then (0 : Int32) else (((w 1) i.toNatClampNeg) - (1 : Int32)))) (upd (w 2) i.toNatClampNeg pl) (upd (w 3) i.toNatClampNeg (((w 3) i.toNatClampNeg) + (1 : Int32))) (if (if ((w 1) i.toNatClampNeg) < mid then (0 : Int32) else (1 : Int32)) = tk then (upd (w 4) i.toNatClampNeg (((w 4) i.toNatClampNeg) + (1 : Int32))) else (w 4)) (w 5) (if ((w 3) i.toNatClampNeg) ≤ 0 then (w 6 0) else (if ((w 2) i.toNatClampNeg) = pl then (w 6 0) else ((w 6 0) + (1 : Int32)))) (if (if ((w 1) i.toNatClampNeg) < mid then (0 : Int32) else (1 : Int32)) = tk then ((w 7 0) + (1 : Int32)) else (w 7 0)))) := hD
          exact J134_12 (upd (w 1) i.toNatClampNeg (if (((w 1) i.toNatClampNeg) - (1 : Int32)) < (0 : Int32) then (0 : Int32) else (((w 1) i.toNatClampNeg) - (1 : Int32)))) (by simp only [if_pos c_11]) H locs hP hD hS ls (lv_sub hl [0, 1, 2, 3, 4] rfl)
        · refine lv_aload_n hx hb dX0_use_90 rfl (lv_at hl 0 rfl) ?_
          refine va_get (D := D) (ci := 0) (v := .ref (a 2)) (C := RX0) (T := TX0) (N := 8) hx hb hts inX0_use_X0 hown hK hP 0 rfl rfl 1 (by decide) (hts _ (List.mem_of_getElem? (i := 4) rfl)) (fun _ h9 => h9) rfl dX0_use_91 ?_
          refine lv_iload_n hx hb dX0_use_94 rfl (lv_at hl 1 rfl) ?_
          refine lv_aload_n hx hb dX0_use_95 rfl (lv_at hl 0 rfl) ?_
          refine va_get (D := D) (ci := 0) (v := .ref (a 2)) (C := RX0) (T := TX0) (N := 8) hx hb hts inX0_use_X0 hown hK hP 0 rfl rfl 1 (by decide) (hts _ (List.mem_of_getElem? (i := 4) rfl)) (fun _ h9 => h9) rfl dX0_use_96 ?_
          refine lv_iload_n hx hb dX0_use_99 rfl (lv_at hl 1 rfl) ?_
          refine x_iald (f := (w 1)) (j := i.toNatClampNeg) hx hb hK hP 2 0 rfl rfl rfl hi dX0_use_100 ?_
          refine lv_iconst (v := 1) hx hb dX0_use_101 (by decide) ?_
          refine lv_iadd hx hb dX0_use_102 ?_
          refine lv_iconst (v := 2) hx hb dX0_use_103 (by decide) ?_
          refine lv_iload hx hb dX0_use_104 (lv_at hl 4 rfl) ?_
          refine lv_imul hx hb dX0_use_106 ?_
          refine lv_iconst (v := 1) hx hb dX0_use_107 (by decide) ?_
          refine lv_isub hx hb dX0_use_108 ?_
          refine va_mmin hx hb (hml.trans hl.1.symm) hown (hts _ (List.mem_of_getElem? (i := 7) rfl)) (hts _ (List.mem_of_getElem? (i := 8) rfl)) (hts _ (List.mem_of_getElem? (i := 9) rfl)) (hts _ (List.mem_of_getElem? (i := 10) rfl)) (Nat.le_of_ble_eq_true rfl) (Nat.le_of_ble_eq_true rfl) (Nat.le_of_ble_eq_true rfl) (Nat.le_of_ble_eq_true rfl) dX0_use_109 ?_
          refine x_iast (j := i.toNatClampNeg) hx hb hK hP hD hS 2 0 rfl rfl rfl hi dX0_use_112 (fun H locs hP hD hS => ?_)
          have hP : va_P D vwCl (cD cy a (mkD (w 0) (upd (w 1) i.toNatClampNeg (if (((2 : Int32) * mid) - (1 : Int32)) < (((w 1) i.toNatClampNeg) + (1 : Int32)) then (((2 : Int32) * mid) - (1 : Int32)) else (((w 1) i.toNatClampNeg) + (1 : Int32)))) (upd (w 2) i.toNatClampNeg pl) (upd (w 3) i.toNatClampNeg (((w 3) i.toNatClampNeg) + (1 : Int32))) (if (if ((w 1) i.toNatClampNeg) < mid then (0 : Int32) else (1 : Int32)) = tk then (upd (w 4) i.toNatClampNeg (((w 4) i.toNatClampNeg) + (1 : Int32))) else (w 4)) (w 5) (if ((w 3) i.toNatClampNeg) ≤ 0 then (w 6 0) else (if ((w 2) i.toNatClampNeg) = pl then (w 6 0) else ((w 6 0) + (1 : Int32)))) (if (if ((w 1) i.toNatClampNeg) < mid then (0 : Int32) else (1 : Int32)) = tk then ((w 7 0) + (1 : Int32)) else (w 7 0)))) H := hP
          have hD : va_D A (cD cy a (mkD (w 0) (upd (w 1) i.toNatClampNeg (if (((2 : Int32) * mid) - (1 : Int32)) < (((w 1) i.toNatClampNeg) + (1 : Int32)) then (((2 : Int32) * mid) - (1 : Int32)) else (((w 1) i.toNatClampNeg) + (1 : Int32)))) (upd (w 2) i.toNatClampNeg pl) (upd (w 3) i.toNatClampNeg (((w 3) i.toNatClampNeg) + (1 : Int32))) (if (if ((w 1) i.toNatClampNeg) < mid then (0 : Int32) else (1 : Int32)) = tk then (upd (w 4) i.toNatClampNeg (((w 4) i.toNatClampNeg) + (1 : Int32))) else (w 4)) (w 5) (if ((w 3) i.toNatClampNeg) ≤ 0 then (w 6 0) else (if ((w 2) i.toNatClampNeg) = pl then (w 6 0) else ((w 6 0) + (1 : Int32)))) (if (if ((w 1) i.toNatClampNeg) < mid then (0 : Int32) else (1 : Int32)) = tk then ((w 7 0) + (1 : Int32)) else (w 7 0)))) := hD
          refine lv_goto (tgt := 134) hx hb dX0_use_113 (by decide) ?_
          exact J134_12 (upd (w 1) i.toNatClampNeg (if (((2 : Int32) * mid) - (1 : Int32)) < (((w 1) i.toNatClampNeg) + (1 : Int32)) then (((2 : Int32) * mid) - (1 : Int32)) else (((w 1) i.toNatClampNeg) + (1 : Int32)))) (by simp only [if_neg c_11]) H locs hP hD hS ls (lv_sub hl [0, 1, 2, 3, 4] rfl)
      refine lv_icmp_ne (tgt := 86) hx hb dX0_use_63 (by decide) (fun c_7 => ?_) (fun c_7 => ?_)
      · exact J86_9 (w 4) (by simp only [if_neg c_7]) (w 7 0) (by simp only [if_neg c_7]) H locs hP hD hS ls (lv_sub hl [0, 1, 2, 3, 4] rfl)
      · refine lv_aload_n hx hb dX0_use_66 rfl (lv_at hl 0 rfl) ?_
        refine va_get (D := D) (ci := 0) (v := .ref (a 5)) (C := RX0) (T := TX0) (N := 8) hx hb hts inX0_use_X0 hown hK hP 0 rfl rfl 4 (by decide) (hts _ (List.mem_of_getElem? (i := 5) rfl)) (fun _ h9 => h9) rfl dX0_use_67 ?_
        refine lv_iload_n hx hb dX0_use_70 rfl (lv_at hl 1 rfl) ?_
        refine lv_dup2_11 hx hb dX0_use_71 rfl rfl ?_
        refine x_iald (f := (w 4)) (j := i.toNatClampNeg) hx hb hK hP 5 0 rfl rfl rfl hi dX0_use_72 ?_
        refine lv_iconst (v := 1) hx hb dX0_use_73 (by decide) ?_
        refine lv_iadd hx hb dX0_use_74 ?_
        refine x_iast (j := i.toNatClampNeg) hx hb hK hP hD hS 5 0 rfl rfl rfl hi dX0_use_75 (fun H locs hP hD hS => ?_)
        have hP : va_P D vwCl (cD cy a (mkD (w 0) (w 1) (upd (w 2) i.toNatClampNeg pl) (upd (w 3) i.toNatClampNeg (((w 3) i.toNatClampNeg) + (1 : Int32))) (upd (w 4) i.toNatClampNeg (((w 4) i.toNatClampNeg) + (1 : Int32))) (w 5) (if ((w 3) i.toNatClampNeg) ≤ 0 then (w 6 0) else (if ((w 2) i.toNatClampNeg) = pl then (w 6 0) else ((w 6 0) + (1 : Int32)))) (w 7 0))) H := hP
        have hD : va_D A (cD cy a (mkD (w 0) (w 1) (upd (w 2) i.toNatClampNeg pl) (upd (w 3) i.toNatClampNeg (((w 3) i.toNatClampNeg) + (1 : Int32))) (upd (w 4) i.toNatClampNeg (((w 4) i.toNatClampNeg) + (1 : Int32))) (w 5) (if ((w 3) i.toNatClampNeg) ≤ 0 then (w 6 0) else (if ((w 2) i.toNatClampNeg) = pl then (w 6 0) else ((w 6 0) + (1 : Int32)))) (w 7 0))) := hD
        refine lv_aload_n hx hb dX0_use_76 rfl (lv_at hl 0 rfl) ?_
        refine lv_dup hx hb dX0_use_77 rfl ?_
        refine va_get (D := D) (ci := 0) (v := .int (w 7 0)) (C := RX0) (T := TX0) (N := 8) hx hb hts inX0_use_X0 hown hK hP 0 rfl rfl 7 (by decide) (hts _ (List.mem_of_getElem? (i := 6) rfl)) (fun _ h9 => h9) rfl dX0_use_78 ?_
        refine lv_iconst (v := 1) hx hb dX0_use_81 (by decide) ?_
        refine lv_iadd hx hb dX0_use_82 ?_
        refine va_put (D := D) (ci := 0) (v := .int ((w 7 0) + (1 : Int32))) (ty := .int) (C := RX0) (T := TX0) (N := 8) hx hb hts inX0_use_X0 tyX0 tyX0_ok nmX0 hown hK hP hD hS 0 rfl rfl 7 (by decide) (hts _ (List.mem_of_getElem? (i := 6) rfl)) (fun _ h9 => h9) rfl (by decide +kernel) rfl rfl (Nat.le_of_ble_eq_true rfl) dX0_use_83 (fun H locs hP hD hS => ?_)
        have hP : va_P D vwCl (cD cy a (mkD (w 0) (w 1) (upd (w 2) i.toNatClampNeg pl) (upd (w 3) i.toNatClampNeg (((w 3) i.toNatClampNeg) + (1 : Int32))) (upd (w 4) i.toNatClampNeg (((w 4) i.toNatClampNeg) + (1 : Int32))) (w 5) (if ((w 3) i.toNatClampNeg) ≤ 0 then (w 6 0) else (if ((w 2) i.toNatClampNeg) = pl then (w 6 0) else ((w 6 0) + (1 : Int32)))) ((w 7 0) + (1 : Int32)))) H := hP
        have hD : va_D A (cD cy a (mkD (w 0) (w 1) (upd (w 2) i.toNatClampNeg pl) (upd (w 3) i.toNatClampNeg (((w 3) i.toNatClampNeg) + (1 : Int32))) (upd (w 4) i.toNatClampNeg (((w 4) i.toNatClampNeg) + (1 : Int32))) (w 5) (if ((w 3) i.toNatClampNeg) ≤ 0 then (w 6 0) else (if ((w 2) i.toNatClampNeg) = pl then (w 6 0) else ((w 6 0) + (1 : Int32)))) ((w 7 0) + (1 : Int32)))) := hD
        exact J86_9 (upd (w 4) i.toNatClampNeg (((w 4) i.toNatClampNeg) + (1 : Int32))) (by simp only [if_pos c_7]) ((w 7 0) + (1 : Int32)) (by simp only [if_pos c_7]) H locs hP hD hS ls (lv_sub hl [0, 1, 2, 3, 4] rfl)
    refine lv_icmp_lt (tgt := 61) hx hb dX0_use_54 (by decide) (fun c_4 => ?_) (fun c_4 => ?_)
    · refine lv_iconst (v := 0) hx hb dX0_use_61 (by decide) ?_
      exact J62_5 (0 : Int32) (by simp only [if_pos c_4]) H locs hP hD hS ls (lv_sub hl [0, 1, 2, 3, 4] rfl)
    · refine lv_iconst (v := 1) hx hb dX0_use_57 (by decide) ?_
      refine lv_goto (tgt := 62) hx hb dX0_use_58 (by decide) ?_
      exact J62_5 (1 : Int32) (by simp only [if_neg c_4]) H locs hP hD hS ls (lv_sub hl [0, 1, 2, 3, 4] rfl)
  refine lv_if_le (tgt := 29) hx hb dX0_use_6 (by decide) (fun c_1 => ?_) (fun c_1 => ?_)
  · exact J29_2 (w 6 0) (by simp only [if_pos c_1]) H locs hP hD hS ls (lv_sub hl [0, 1, 2, 3, 4] rfl)
  · refine lv_aload_n hx hb dX0_use_9 rfl (lv_at hl 0 rfl) ?_
    refine va_get (D := D) (ci := 0) (v := .ref (a 3)) (C := RX0) (T := TX0) (N := 8) hx hb hts inX0_use_X0 hown hK hP 0 rfl rfl 2 (by decide) (hts _ (List.mem_of_getElem? (i := 2) rfl)) (fun _ h9 => h9) rfl dX0_use_10 ?_
    refine lv_iload_n hx hb dX0_use_13 rfl (lv_at hl 1 rfl) ?_
    refine x_iald (f := (w 2)) (j := i.toNatClampNeg) hx hb hK hP 3 0 rfl rfl rfl hi dX0_use_14 ?_
    refine lv_iload_n hx hb dX0_use_15 rfl (lv_at hl 2 rfl) ?_
    refine lv_icmp_eq (tgt := 29) hx hb dX0_use_16 (by decide) (fun c_14 => ?_) (fun c_14 => ?_)
    · exact J29_2 (w 6 0) (by simp only [if_neg c_1, if_pos c_14]) H locs hP hD hS ls (lv_sub hl [0, 1, 2, 3, 4] rfl)
    · refine lv_aload_n hx hb dX0_use_19 rfl (lv_at hl 0 rfl) ?_
      refine lv_dup hx hb dX0_use_20 rfl ?_
      refine va_get (D := D) (ci := 0) (v := .int (w 6 0)) (C := RX0) (T := TX0) (N := 8) hx hb hts inX0_use_X0 hown hK hP 0 rfl rfl 6 (by decide) (hts _ (List.mem_of_getElem? (i := 3) rfl)) (fun _ h9 => h9) rfl dX0_use_21 ?_
      refine lv_iconst (v := 1) hx hb dX0_use_24 (by decide) ?_
      refine lv_iadd hx hb dX0_use_25 ?_
      refine va_put (D := D) (ci := 0) (v := .int ((w 6 0) + (1 : Int32))) (ty := .int) (C := RX0) (T := TX0) (N := 8) hx hb hts inX0_use_X0 tyX0 tyX0_ok nmX0 hown hK hP hD hS 0 rfl rfl 6 (by decide) (hts _ (List.mem_of_getElem? (i := 3) rfl)) (fun _ h9 => h9) rfl (by decide +kernel) rfl rfl (Nat.le_of_ble_eq_true rfl) dX0_use_26 (fun H locs hP hD hS => ?_)
      have hP : va_P D vwCl (cD cy a (mkD (w 0) (w 1) (w 2) (w 3) (w 4) (w 5) ((w 6 0) + (1 : Int32)) (w 7 0))) H := hP
      have hD : va_D A (cD cy a (mkD (w 0) (w 1) (w 2) (w 3) (w 4) (w 5) ((w 6 0) + (1 : Int32)) (w 7 0))) := hD
      exact J29_2 ((w 6 0) + (1 : Int32)) (by simp only [if_neg c_1, if_neg c_14]) H locs hP hD hS ls (lv_sub hl [0, 1, 2, 3, 4] rfl)

def w_X0_beginAnew (w : RV) (mid : Int32) : RV := (mkD (w 0) (fun _ => (mid - (1 : Int32))) (fun _ => (-99999 : Int32)) (fun _ => (0 : Int32)) (fun _ => (0 : Int32)) (fun _ => (0 : Int32)) (0 : Int32) (0 : Int32))
abbrev rX0_beginAnew : Room := { frames := 1, cells := 0, slots := 0, locals := 23 }
theorem inX0_beginAnew_X0 : ∀ w ∈ u_ws RX0 TX0 8, w ∈ wsX0_beginAnew := by decide +kernel
set_option maxHeartbeats 4000000 in
set_option maxRecDepth 100000 in
theorem c_X0_beginAnew (l : Launch) (D : va_G) (cy : Nat → ClassId) (a : Nat → Nat) (w : RV) (mid : Int32) (sz : Nat)  : CN l yX0_beginAnew wsX0_beginAnew rX0_beginAnew D cy [.ref (a 0), .int mid] (cD cy a w) sz (cD cy a (w_X0_beginAnew w mid)) 0 0 := by
  refine st_n (cc := cX0_beginAnew) (maxL := 2) (by decide) rfl (Nat.le_of_ble_eq_true rfl) ?_
  intro pp e s m below meth c A Q ls hx hb hts hown hml hlocks hsz hP hK hD hE hA hl hret
  subst hsz
  have hown : s.vm.findClass RX0 = some m.cls := hown
  have hl : lv_has ls 2 [(0, .ref (a 0)), (1, .int mid)] := hl
  obtain ⟨H, hH⟩ : ∃ H, H = s.heap := ⟨_, rfl⟩
  rw [← hH] at hP ⊢
  have hS : va_S A s.heap H [] := by rw [hH]; exact va_S.rf
  obtain ⟨locs, hlo⟩ : ∃ locs : List Loc, locs = [] := ⟨_, rfl⟩
  rw [← hlo] at hS ⊢
  refine lv_aload_n hx hb dX0_beginAnew_0 rfl (lv_at hl 0 rfl) ?_
  refine va_get (D := D) (ci := 0) (v := .ref (a 2)) (C := RX0) (T := TX0) (N := 8) hx hb hts inX0_beginAnew_X0 hown hK hP 0 rfl rfl 1 (by decide) (hts _ (List.mem_of_getElem? (i := 1) rfl)) (fun _ h9 => h9) rfl dX0_beginAnew_1 ?_
  refine lv_iload_n hx hb dX0_beginAnew_4 rfl (lv_at hl 1 rfl) ?_
  refine lv_iconst (v := 1) hx hb dX0_beginAnew_5 (by decide) ?_
  refine lv_isub hx hb dX0_beginAnew_6 ?_
  refine x_fill (n := 64) ⟨hx, hb, hml, hown, hts⟩ (va_cwS 2 hts gX0_beginAnew_J7_fill_53178 rfl rfl rfl (by decide +kernel) ⟨Nat.le_of_ble_eq_true rfl, Nat.le_of_ble_eq_true rfl⟩) hK hP hD hS hA hE 2 rfl (by decide) hl.1 (lv_room (Nat.le_of_ble_eq_true rfl)) dX0_beginAnew_7 ⟨Nat.le_of_ble_eq_true rfl, Nat.le_of_ble_eq_true rfl⟩ (fun H locs hP hD hS => ?_)
  have hP : va_P D vwCl (cD cy a (mkD (w 0) (fun _ => (mid - (1 : Int32))) (w 2) (w 3) (w 4) (w 5) (w 6 0) (w 7 0))) H := hP
  have hD : va_D A (cD cy a (mkD (w 0) (fun _ => (mid - (1 : Int32))) (w 2) (w 3) (w 4) (w 5) (w 6 0) (w 7 0))) := hD
  refine lv_aload_n hx hb dX0_beginAnew_10 rfl (lv_at hl 0 rfl) ?_
  refine va_get (D := D) (ci := 0) (v := .ref (a 3)) (C := RX0) (T := TX0) (N := 8) hx hb hts inX0_beginAnew_X0 hown hK hP 0 rfl rfl 2 (by decide) (hts _ (List.mem_of_getElem? (i := 2) rfl)) (fun _ h9 => h9) rfl dX0_beginAnew_11 ?_
  refine lv_ldc (v := (-99999)) hx hb hown (hts _ (List.mem_of_getElem? (i := 3) rfl)) dX0_beginAnew_14 ?_
  refine x_fill (n := 64) ⟨hx, hb, hml, hown, hts⟩ (va_cwS 2 hts gX0_beginAnew_J7_fill_53178 rfl rfl rfl (by decide +kernel) ⟨Nat.le_of_ble_eq_true rfl, Nat.le_of_ble_eq_true rfl⟩) hK hP hD hS hA hE 3 rfl (by decide) hl.1 (lv_room (Nat.le_of_ble_eq_true rfl)) dX0_beginAnew_16 ⟨Nat.le_of_ble_eq_true rfl, Nat.le_of_ble_eq_true rfl⟩ (fun H locs hP hD hS => ?_)
  have hP : va_P D vwCl (cD cy a (mkD (w 0) (fun _ => (mid - (1 : Int32))) (fun _ => (-99999 : Int32)) (w 3) (w 4) (w 5) (w 6 0) (w 7 0))) H := hP
  have hD : va_D A (cD cy a (mkD (w 0) (fun _ => (mid - (1 : Int32))) (fun _ => (-99999 : Int32)) (w 3) (w 4) (w 5) (w 6 0) (w 7 0))) := hD
  refine lv_aload_n hx hb dX0_beginAnew_19 rfl (lv_at hl 0 rfl) ?_
  refine va_get (D := D) (ci := 0) (v := .ref (a 4)) (C := RX0) (T := TX0) (N := 8) hx hb hts inX0_beginAnew_X0 hown hK hP 0 rfl rfl 3 (by decide) (hts _ (List.mem_of_getElem? (i := 4) rfl)) (fun _ h9 => h9) rfl dX0_beginAnew_20 ?_
  refine lv_iconst (v := 0) hx hb dX0_beginAnew_23 (by decide) ?_
  refine x_fill (n := 64) ⟨hx, hb, hml, hown, hts⟩ (va_cwS 2 hts gX0_beginAnew_J7_fill_53178 rfl rfl rfl (by decide +kernel) ⟨Nat.le_of_ble_eq_true rfl, Nat.le_of_ble_eq_true rfl⟩) hK hP hD hS hA hE 4 rfl (by decide) hl.1 (lv_room (Nat.le_of_ble_eq_true rfl)) dX0_beginAnew_24 ⟨Nat.le_of_ble_eq_true rfl, Nat.le_of_ble_eq_true rfl⟩ (fun H locs hP hD hS => ?_)
  have hP : va_P D vwCl (cD cy a (mkD (w 0) (fun _ => (mid - (1 : Int32))) (fun _ => (-99999 : Int32)) (fun _ => (0 : Int32)) (w 4) (w 5) (w 6 0) (w 7 0))) H := hP
  have hD : va_D A (cD cy a (mkD (w 0) (fun _ => (mid - (1 : Int32))) (fun _ => (-99999 : Int32)) (fun _ => (0 : Int32)) (w 4) (w 5) (w 6 0) (w 7 0))) := hD
  refine lv_aload_n hx hb dX0_beginAnew_27 rfl (lv_at hl 0 rfl) ?_
  refine va_get (D := D) (ci := 0) (v := .ref (a 5)) (C := RX0) (T := TX0) (N := 8) hx hb hts inX0_beginAnew_X0 hown hK hP 0 rfl rfl 4 (by decide) (hts _ (List.mem_of_getElem? (i := 5) rfl)) (fun _ h9 => h9) rfl dX0_beginAnew_28 ?_
  refine lv_iconst (v := 0) hx hb dX0_beginAnew_31 (by decide) ?_
  refine x_fill (n := 64) ⟨hx, hb, hml, hown, hts⟩ (va_cwS 2 hts gX0_beginAnew_J7_fill_53178 rfl rfl rfl (by decide +kernel) ⟨Nat.le_of_ble_eq_true rfl, Nat.le_of_ble_eq_true rfl⟩) hK hP hD hS hA hE 5 rfl (by decide) hl.1 (lv_room (Nat.le_of_ble_eq_true rfl)) dX0_beginAnew_32 ⟨Nat.le_of_ble_eq_true rfl, Nat.le_of_ble_eq_true rfl⟩ (fun H locs hP hD hS => ?_)
  have hP : va_P D vwCl (cD cy a (mkD (w 0) (fun _ => (mid - (1 : Int32))) (fun _ => (-99999 : Int32)) (fun _ => (0 : Int32)) (fun _ => (0 : Int32)) (w 5) (w 6 0) (w 7 0))) H := hP
  have hD : va_D A (cD cy a (mkD (w 0) (fun _ => (mid - (1 : Int32))) (fun _ => (-99999 : Int32)) (fun _ => (0 : Int32)) (fun _ => (0 : Int32)) (w 5) (w 6 0) (w 7 0))) := hD
  refine lv_aload_n hx hb dX0_beginAnew_35 rfl (lv_at hl 0 rfl) ?_
  refine va_get (D := D) (ci := 0) (v := .ref (a 6)) (C := RX0) (T := TX0) (N := 8) hx hb hts inX0_beginAnew_X0 hown hK hP 0 rfl rfl 5 (by decide) (hts _ (List.mem_of_getElem? (i := 6) rfl)) (fun _ h9 => h9) rfl dX0_beginAnew_36 ?_
  refine lv_iconst (v := 0) hx hb dX0_beginAnew_39 (by decide) ?_
  refine x_fill (n := 26) ⟨hx, hb, hml, hown, hts⟩ (va_cwS 2 hts gX0_beginAnew_J7_fill_53178 rfl rfl rfl (by decide +kernel) ⟨Nat.le_of_ble_eq_true rfl, Nat.le_of_ble_eq_true rfl⟩) hK hP hD hS hA hE 6 rfl (by decide) hl.1 (lv_room (Nat.le_of_ble_eq_true rfl)) dX0_beginAnew_40 ⟨Nat.le_of_ble_eq_true rfl, Nat.le_of_ble_eq_true rfl⟩ (fun H locs hP hD hS => ?_)
  have hP : va_P D vwCl (cD cy a (mkD (w 0) (fun _ => (mid - (1 : Int32))) (fun _ => (-99999 : Int32)) (fun _ => (0 : Int32)) (fun _ => (0 : Int32)) (fun _ => (0 : Int32)) (w 6 0) (w 7 0))) H := hP
  have hD : va_D A (cD cy a (mkD (w 0) (fun _ => (mid - (1 : Int32))) (fun _ => (-99999 : Int32)) (fun _ => (0 : Int32)) (fun _ => (0 : Int32)) (fun _ => (0 : Int32)) (w 6 0) (w 7 0))) := hD
  refine lv_aload_n hx hb dX0_beginAnew_43 rfl (lv_at hl 0 rfl) ?_
  refine lv_iconst (v := 0) hx hb dX0_beginAnew_44 (by decide) ?_
  refine va_put (D := D) (ci := 0) (v := .int (0 : Int32)) (ty := .int) (C := RX0) (T := TX0) (N := 8) hx hb hts inX0_beginAnew_X0 tyX0 tyX0_ok nmX0 hown hK hP hD hS 0 rfl rfl 6 (by decide) (hts _ (List.mem_of_getElem? (i := 7) rfl)) (fun _ h9 => h9) rfl (by decide +kernel) rfl rfl (Nat.le_of_ble_eq_true rfl) dX0_beginAnew_45 (fun H locs hP hD hS => ?_)
  have hP : va_P D vwCl (cD cy a (mkD (w 0) (fun _ => (mid - (1 : Int32))) (fun _ => (-99999 : Int32)) (fun _ => (0 : Int32)) (fun _ => (0 : Int32)) (fun _ => (0 : Int32)) (0 : Int32) (w 7 0))) H := hP
  have hD : va_D A (cD cy a (mkD (w 0) (fun _ => (mid - (1 : Int32))) (fun _ => (-99999 : Int32)) (fun _ => (0 : Int32)) (fun _ => (0 : Int32)) (fun _ => (0 : Int32)) (0 : Int32) (w 7 0))) := hD
  refine lv_aload_n hx hb dX0_beginAnew_48 rfl (lv_at hl 0 rfl) ?_
  refine lv_iconst (v := 0) hx hb dX0_beginAnew_49 (by decide) ?_
  refine va_put (D := D) (ci := 0) (v := .int (0 : Int32)) (ty := .int) (C := RX0) (T := TX0) (N := 8) hx hb hts inX0_beginAnew_X0 tyX0 tyX0_ok nmX0 hown hK hP hD hS 0 rfl rfl 7 (by decide) (hts _ (List.mem_of_getElem? (i := 8) rfl)) (fun _ h9 => h9) rfl (by decide +kernel) rfl rfl (Nat.le_of_ble_eq_true rfl) dX0_beginAnew_50 (fun H locs hP hD hS => ?_)
  have hP : va_P D vwCl (cD cy a (mkD (w 0) (fun _ => (mid - (1 : Int32))) (fun _ => (-99999 : Int32)) (fun _ => (0 : Int32)) (fun _ => (0 : Int32)) (fun _ => (0 : Int32)) (0 : Int32) (0 : Int32))) H := hP
  have hD : va_D A (cD cy a (mkD (w 0) (fun _ => (mid - (1 : Int32))) (fun _ => (-99999 : Int32)) (fun _ => (0 : Int32)) (fun _ => (0 : Int32)) (fun _ => (0 : Int32)) (0 : Int32) (0 : Int32))) := hD
  have hw9 : (w_X0_beginAnew w mid) = (mkD (w 0) (fun _ => (mid - (1 : Int32))) (fun _ => (-99999 : Int32)) (fun _ => (0 : Int32)) (fun _ => (0 : Int32)) (fun _ => (0 : Int32)) (0 : Int32) (0 : Int32)) := by rfl
  exact hret H locs _ ls (by rw [hw9]; exact hP) (by rw [hw9]; exact hD) hS dX0_beginAnew_53

/-- how many of the first n are above 0 -/
def cuf (f : Nat → Int32) : Nat → Int32
  | 0 => 0
  | n + 1 => if f n ≤ 0 then cuf f n else cuf f n + 1
def r_X0_countUsed (w : RV) : Int32 := cuf (w 3) 64

abbrev rX0_countUsed : Room := { frames := 0, cells := 0, slots := 0, locals := 0 }
theorem inX0_countUsed_X0 : ∀ w ∈ u_ws RX0 TX0 8, w ∈ wsX0_countUsed := by decide +kernel
set_option maxHeartbeats 4000000 in
set_option maxRecDepth 100000 in
theorem c_X0_countUsed (l : Launch) (D : va_G) (cy : Nat → ClassId) (a : Nat → Nat) (w : RV)  (sz : Nat)  : CI l yX0_countUsed wsX0_countUsed rX0_countUsed D cy [.ref (a 0)] (cD cy a w) sz (r_X0_countUsed w) (cD cy a w) 0 0 := by
  refine st_i (ty := .int) (cc := cX0_countUsed) (maxL := 3) (by decide) rfl rfl (Nat.le_of_ble_eq_true rfl) ?_
  intro pp e s m below meth c A Q ls hx hb hts hown hml hlocks hsz hP hK hD hE hA hl hret
  subst hsz
  have hown : s.vm.findClass RX0 = some m.cls := hown
  have hl : lv_has ls 3 [(0, .ref (a 0))] := hl
  obtain ⟨H, hH⟩ : ∃ H, H = s.heap := ⟨_, rfl⟩
  rw [← hH] at hP ⊢
  have hS : va_S A s.heap H [] := by rw [hH]; exact va_S.rf
  obtain ⟨locs, hlo⟩ : ∃ locs : List Loc, locs = [] := ⟨_, rfl⟩
  rw [← hlo] at hS ⊢
  have hloop : ∀ (k i : Nat) (x : Int32), i + k = 64 → x = cuf (w 3) i → ∀ (locs : List Loc), va_S A s.heap H locs → ∀ ls : Array Slot, lv_has ls 3 [(0, .ref (a 0)), (1, .int x), (2, .int (nI i))] → W pp l e rX0_countUsed s m ([.ref (a 0)] : List Value).toArray below meth c H locs 0 0 Q (F0 m 4 ls []) := by
    intro k
    induction k with
    | zero =>
      intro i x hi hxx locs hS ls hl
      have hi : i = 64 := by omega
      subst hi
      refine lv_iload_n hx hb dX0_countUsed_4 rfl (lv_at hl 2 rfl) ?_
      refine lv_bipush (v := 64) hx hb dX0_countUsed_5 (by decide) ?_
      refine lv_icmp_ge (tgt := 28) hx hb dX0_countUsed_7 (by decide) (fun c_1 => ?_) (fun c_1 => absurd (Int32.le_refl _) c_1)
      refine lv_iload_n hx hb dX0_countUsed_28 rfl (lv_at hl 1 rfl) ?_
      exact hret _ H locs _ ls hxx hP hD hS dX0_countUsed_29
    | succ k ih =>
      intro i x hi hxx locs hS ls hl
      refine lv_iload_n hx hb dX0_countUsed_4 rfl (lv_at hl 2 rfl) ?_
      refine lv_bipush (v := 64) hx hb dX0_countUsed_5 (by decide) ?_
      refine lv_icmp_ge (tgt := 28) hx hb dX0_countUsed_7 (by decide) (fun c_2 => absurd c_2 (nI_ge (a := i) (b := 64) (by omega) (by decide))) (fun c_2 => ?_)
      refine lv_aload_n hx hb dX0_countUsed_10 rfl (lv_at hl 0 rfl) ?_
      refine va_get (D := D) (ci := 0) (v := .ref (a 4)) (C := RX0) (T := TX0) (N := 8) hx hb hts inX0_countUsed_X0 hown hK hP 0 rfl rfl 3 (by decide) (hts _ (List.mem_of_getElem? (i := 1) rfl)) (fun _ h9 => h9) rfl dX0_countUsed_11 ?_
      refine lv_iload_n hx hb dX0_countUsed_14 rfl (lv_at hl 2 rfl) ?_
      refine x_iald (f := (w 3)) (j := i) hx hb hK hP 4 0 rfl rfl (nI_clamp (by omega)) (vp_in_nI (by omega) (by decide)) dX0_countUsed_15 ?_
      refine lv_if_le (tgt := 22) hx hb dX0_countUsed_16 (by decide) (fun c_3 => ?_) (fun c_3 => ?_)
      · refine lv_iinc (v := (nI (i + 1))) (lv' := [(2, .int (nI (i + 1))), (0, .ref (a 0)), (1, .int x)]) hx hb dX0_countUsed_22 hl (k := 2) rfl (nI_1 i) (by decide) rfl (fun ls hl => ?_)
        refine lv_goto (tgt := 4) hx hb dX0_countUsed_25 (by decide) ?_
        exact ih (i + 1) _ (by omega) (by show _ = (if (w 3) i ≤ 0 then cuf (w 3) i else cuf (w 3) i + 1); rw [if_pos c_3, hxx]) locs hS ls (lv_sub hl [1, 2, 0] rfl)
      · refine lv_iinc (v := (x + (1 : Int32))) (lv' := [(1, .int (x + (1 : Int32))), (0, .ref (a 0)), (2, .int (nI i))]) hx hb dX0_countUsed_19 hl (k := 1) rfl rfl (by decide) rfl (fun ls hl => ?_)
        refine lv_iinc (v := (nI (i + 1))) (lv' := [(2, .int (nI (i + 1))), (1, .int (x + (1 : Int32))), (0, .ref (a 0))]) hx hb dX0_countUsed_22 hl (k := 2) rfl (nI_1 i) (by decide) rfl (fun ls hl => ?_)
        refine lv_goto (tgt := 4) hx hb dX0_countUsed_25 (by decide) ?_
        exact ih (i + 1) _ (by omega) (by show _ = (if (w 3) i ≤ 0 then cuf (w 3) i else cuf (w 3) i + 1); rw [if_neg c_3, hxx]) locs hS ls (lv_sub hl [2, 1, 0] rfl)
  refine lv_iconst (v := 0) hx hb dX0_countUsed_0 (by decide) ?_
  refine lv_istore_n (lv' := [(1, .int (0 : Int32)), (0, .ref (a 0))]) hx hb dX0_countUsed_1 rfl hl (by decide) rfl (fun ls hl => ?_)
  refine lv_iconst (v := 0) hx hb dX0_countUsed_2 (by decide) ?_
  refine lv_istore_n (lv' := [(2, .int (0 : Int32)), (1, .int (0 : Int32)), (0, .ref (a 0))]) hx hb dX0_countUsed_3 rfl hl (by decide) rfl (fun ls hl => ?_)
  exact hloop 64 0 0 rfl rfl locs hS ls (lv_sub hl [2, 1, 0] rfl)

abbrev rX0_copyFrom : Room := { frames := 1, cells := 0, slots := 0, locals := 60 }
theorem inX0_copyFrom_X0 : ∀ w ∈ u_ws RX0 TX0 8, w ∈ wsX0_copyFrom := by decide +kernel
set_option maxHeartbeats 4000000 in
set_option maxRecDepth 100000 in
theorem c_X0_copyFrom (l : Launch) (D : va_G) (cy : Nat → ClassId) (a : Nat → Nat) (b : Nat → Nat) (w : RV) (u : RV)  (sz : Nat)  : CN l yX0_copyFrom wsX0_copyFrom rX0_copyFrom D cy [.ref (a 0), .ref (b 0)] (cD cy a w ++ cD cy b u) sz (cD cy a u ++ cD cy b u) 0 0 := by
  refine st_n (cc := cX0_copyFrom) (maxL := 2) (by decide) rfl (Nat.le_of_ble_eq_true rfl) ?_
  intro pp e s m below meth c A Q ls hx hb hts hown hml hlocks hsz hP hK hD hE hA hl hret
  subst hsz
  have hown : s.vm.findClass RX0 = some m.cls := hown
  have hl : lv_has ls 2 [(0, .ref (a 0)), (1, .ref (b 0))] := hl
  obtain ⟨H, hH⟩ : ∃ H, H = s.heap := ⟨_, rfl⟩
  rw [← hH] at hP ⊢
  have hS : va_S A s.heap H [] := by rw [hH]; exact va_S.rf
  obtain ⟨locs, hlo⟩ : ∃ locs : List Loc, locs = [] := ⟨_, rfl⟩
  rw [← hlo] at hS ⊢
  refine lv_aload_n hx hb dX0_copyFrom_0 rfl (lv_at hl 1 rfl) ?_
  refine va_get (D := D) (ci := 0) (v := .ref (b 1)) (C := RX0) (T := TX0) (N := 8) hx hb hts inX0_copyFrom_X0 hown hK hP 7 rfl rfl 0 (by decide) (hts _ (List.mem_of_getElem? (i := 1) rfl)) (fun _ h9 => h9) rfl dX0_copyFrom_1 ?_
  refine lv_iconst (v := 0) hx hb dX0_copyFrom_4 (by decide) ?_
  refine lv_aload_n hx hb dX0_copyFrom_5 rfl (lv_at hl 0 rfl) ?_
  refine va_get (D := D) (ci := 0) (v := .ref (a 1)) (C := RX0) (T := TX0) (N := 8) hx hb hts inX0_copyFrom_X0 hown hK hP 0 rfl rfl 0 (by decide) (hts _ (List.mem_of_getElem? (i := 1) rfl)) (fun _ h9 => h9) rfl dX0_copyFrom_6 ?_
  refine lv_iconst (v := 0) hx hb dX0_copyFrom_9 (by decide) ?_
  refine lv_iconst (v := 3) hx hb dX0_copyFrom_10 (by decide) ?_
  refine x_cpy (N := 3) hx hb (hml.trans hl.1.symm) hown (hts _ (List.mem_of_getElem? (i := 2) rfl)) (hts _ (List.mem_of_getElem? (i := 3) rfl)) (hts _ (List.mem_of_getElem? (i := 4) rfl)) (hts _ (List.mem_of_getElem? (i := 5) rfl)) hK hP hD hS 8 1 0 rfl rfl rfl (by decide) (by decide) (Nat.le_of_ble_eq_true rfl) (Nat.le_of_ble_eq_true rfl) dX0_copyFrom_11 (fun H locs hP hD hS => ?_)
  have hP : va_P D vwCl (cD cy a (mkD (u 0) (w 1) (w 2) (w 3) (w 4) (w 5) (w 6 0) (w 7 0)) ++ cD cy b u) H := hP
  have hD : va_D A (cD cy a (mkD (u 0) (w 1) (w 2) (w 3) (w 4) (w 5) (w 6 0) (w 7 0)) ++ cD cy b u) := hD
  refine lv_aload_n hx hb dX0_copyFrom_14 rfl (lv_at hl 1 rfl) ?_
  refine va_get (D := D) (ci := 0) (v := .ref (b 2)) (C := RX0) (T := TX0) (N := 8) hx hb hts inX0_copyFrom_X0 hown hK hP 7 rfl rfl 1 (by decide) (hts _ (List.mem_of_getElem? (i := 6) rfl)) (fun _ h9 => h9) rfl dX0_copyFrom_15 ?_
  refine lv_iconst (v := 0) hx hb dX0_copyFrom_18 (by decide) ?_
  refine lv_aload_n hx hb dX0_copyFrom_19 rfl (lv_at hl 0 rfl) ?_
  refine va_get (D := D) (ci := 0) (v := .ref (a 2)) (C := RX0) (T := TX0) (N := 8) hx hb hts inX0_copyFrom_X0 hown hK hP 0 rfl rfl 1 (by decide) (hts _ (List.mem_of_getElem? (i := 6) rfl)) (fun _ h9 => h9) rfl dX0_copyFrom_20 ?_
  refine lv_iconst (v := 0) hx hb dX0_copyFrom_23 (by decide) ?_
  refine lv_bipush (v := 64) hx hb dX0_copyFrom_24 (by decide) ?_
  refine x_cpy (N := 64) hx hb (hml.trans hl.1.symm) hown (hts _ (List.mem_of_getElem? (i := 2) rfl)) (hts _ (List.mem_of_getElem? (i := 3) rfl)) (hts _ (List.mem_of_getElem? (i := 4) rfl)) (hts _ (List.mem_of_getElem? (i := 5) rfl)) hK hP hD hS 9 2 0 rfl rfl rfl (by decide) (by decide) (Nat.le_of_ble_eq_true rfl) (Nat.le_of_ble_eq_true rfl) dX0_copyFrom_26 (fun H locs hP hD hS => ?_)
  have hP : va_P D vwCl (cD cy a (mkD (u 0) (u 1) (w 2) (w 3) (w 4) (w 5) (w 6 0) (w 7 0)) ++ cD cy b u) H := hP
  have hD : va_D A (cD cy a (mkD (u 0) (u 1) (w 2) (w 3) (w 4) (w 5) (w 6 0) (w 7 0)) ++ cD cy b u) := hD
  refine lv_aload_n hx hb dX0_copyFrom_29 rfl (lv_at hl 1 rfl) ?_
  refine va_get (D := D) (ci := 0) (v := .ref (b 3)) (C := RX0) (T := TX0) (N := 8) hx hb hts inX0_copyFrom_X0 hown hK hP 7 rfl rfl 2 (by decide) (hts _ (List.mem_of_getElem? (i := 7) rfl)) (fun _ h9 => h9) rfl dX0_copyFrom_30 ?_
  refine lv_iconst (v := 0) hx hb dX0_copyFrom_33 (by decide) ?_
  refine lv_aload_n hx hb dX0_copyFrom_34 rfl (lv_at hl 0 rfl) ?_
  refine va_get (D := D) (ci := 0) (v := .ref (a 3)) (C := RX0) (T := TX0) (N := 8) hx hb hts inX0_copyFrom_X0 hown hK hP 0 rfl rfl 2 (by decide) (hts _ (List.mem_of_getElem? (i := 7) rfl)) (fun _ h9 => h9) rfl dX0_copyFrom_35 ?_
  refine lv_iconst (v := 0) hx hb dX0_copyFrom_38 (by decide) ?_
  refine lv_bipush (v := 64) hx hb dX0_copyFrom_39 (by decide) ?_
  refine x_cpy (N := 64) hx hb (hml.trans hl.1.symm) hown (hts _ (List.mem_of_getElem? (i := 2) rfl)) (hts _ (List.mem_of_getElem? (i := 3) rfl)) (hts _ (List.mem_of_getElem? (i := 4) rfl)) (hts _ (List.mem_of_getElem? (i := 5) rfl)) hK hP hD hS 10 3 0 rfl rfl rfl (by decide) (by decide) (Nat.le_of_ble_eq_true rfl) (Nat.le_of_ble_eq_true rfl) dX0_copyFrom_41 (fun H locs hP hD hS => ?_)
  have hP : va_P D vwCl (cD cy a (mkD (u 0) (u 1) (u 2) (w 3) (w 4) (w 5) (w 6 0) (w 7 0)) ++ cD cy b u) H := hP
  have hD : va_D A (cD cy a (mkD (u 0) (u 1) (u 2) (w 3) (w 4) (w 5) (w 6 0) (w 7 0)) ++ cD cy b u) := hD
  refine lv_aload_n hx hb dX0_copyFrom_44 rfl (lv_at hl 1 rfl) ?_
  refine va_get (D := D) (ci := 0) (v := .ref (b 4)) (C := RX0) (T := TX0) (N := 8) hx hb hts inX0_copyFrom_X0 hown hK hP 7 rfl rfl 3 (by decide) (hts _ (List.mem_of_getElem? (i := 8) rfl)) (fun _ h9 => h9) rfl dX0_copyFrom_45 ?_
  refine lv_iconst (v := 0) hx hb dX0_copyFrom_48 (by decide) ?_
  refine lv_aload_n hx hb dX0_copyFrom_49 rfl (lv_at hl 0 rfl) ?_
  refine va_get (D := D) (ci := 0) (v := .ref (a 4)) (C := RX0) (T := TX0) (N := 8) hx hb hts inX0_copyFrom_X0 hown hK hP 0 rfl rfl 3 (by decide) (hts _ (List.mem_of_getElem? (i := 8) rfl)) (fun _ h9 => h9) rfl dX0_copyFrom_50 ?_
  refine lv_iconst (v := 0) hx hb dX0_copyFrom_53 (by decide) ?_
  refine lv_bipush (v := 64) hx hb dX0_copyFrom_54 (by decide) ?_
  refine x_cpy (N := 64) hx hb (hml.trans hl.1.symm) hown (hts _ (List.mem_of_getElem? (i := 2) rfl)) (hts _ (List.mem_of_getElem? (i := 3) rfl)) (hts _ (List.mem_of_getElem? (i := 4) rfl)) (hts _ (List.mem_of_getElem? (i := 5) rfl)) hK hP hD hS 11 4 0 rfl rfl rfl (by decide) (by decide) (Nat.le_of_ble_eq_true rfl) (Nat.le_of_ble_eq_true rfl) dX0_copyFrom_56 (fun H locs hP hD hS => ?_)
  have hP : va_P D vwCl (cD cy a (mkD (u 0) (u 1) (u 2) (u 3) (w 4) (w 5) (w 6 0) (w 7 0)) ++ cD cy b u) H := hP
  have hD : va_D A (cD cy a (mkD (u 0) (u 1) (u 2) (u 3) (w 4) (w 5) (w 6 0) (w 7 0)) ++ cD cy b u) := hD
  refine lv_aload_n hx hb dX0_copyFrom_59 rfl (lv_at hl 1 rfl) ?_
  refine va_get (D := D) (ci := 0) (v := .ref (b 5)) (C := RX0) (T := TX0) (N := 8) hx hb hts inX0_copyFrom_X0 hown hK hP 7 rfl rfl 4 (by decide) (hts _ (List.mem_of_getElem? (i := 9) rfl)) (fun _ h9 => h9) rfl dX0_copyFrom_60 ?_
  refine lv_iconst (v := 0) hx hb dX0_copyFrom_63 (by decide) ?_
  refine lv_aload_n hx hb dX0_copyFrom_64 rfl (lv_at hl 0 rfl) ?_
  refine va_get (D := D) (ci := 0) (v := .ref (a 5)) (C := RX0) (T := TX0) (N := 8) hx hb hts inX0_copyFrom_X0 hown hK hP 0 rfl rfl 4 (by decide) (hts _ (List.mem_of_getElem? (i := 9) rfl)) (fun _ h9 => h9) rfl dX0_copyFrom_65 ?_
  refine lv_iconst (v := 0) hx hb dX0_copyFrom_68 (by decide) ?_
  refine lv_bipush (v := 64) hx hb dX0_copyFrom_69 (by decide) ?_
  refine x_cpy (N := 64) hx hb (hml.trans hl.1.symm) hown (hts _ (List.mem_of_getElem? (i := 2) rfl)) (hts _ (List.mem_of_getElem? (i := 3) rfl)) (hts _ (List.mem_of_getElem? (i := 4) rfl)) (hts _ (List.mem_of_getElem? (i := 5) rfl)) hK hP hD hS 12 5 0 rfl rfl rfl (by decide) (by decide) (Nat.le_of_ble_eq_true rfl) (Nat.le_of_ble_eq_true rfl) dX0_copyFrom_71 (fun H locs hP hD hS => ?_)
  have hP : va_P D vwCl (cD cy a (mkD (u 0) (u 1) (u 2) (u 3) (u 4) (w 5) (w 6 0) (w 7 0)) ++ cD cy b u) H := hP
  have hD : va_D A (cD cy a (mkD (u 0) (u 1) (u 2) (u 3) (u 4) (w 5) (w 6 0) (w 7 0)) ++ cD cy b u) := hD
  refine lv_aload_n hx hb dX0_copyFrom_74 rfl (lv_at hl 1 rfl) ?_
  refine va_get (D := D) (ci := 0) (v := .ref (b 6)) (C := RX0) (T := TX0) (N := 8) hx hb hts inX0_copyFrom_X0 hown hK hP 7 rfl rfl 5 (by decide) (hts _ (List.mem_of_getElem? (i := 10) rfl)) (fun _ h9 => h9) rfl dX0_copyFrom_75 ?_
  refine lv_iconst (v := 0) hx hb dX0_copyFrom_78 (by decide) ?_
  refine lv_aload_n hx hb dX0_copyFrom_79 rfl (lv_at hl 0 rfl) ?_
  refine va_get (D := D) (ci := 0) (v := .ref (a 6)) (C := RX0) (T := TX0) (N := 8) hx hb hts inX0_copyFrom_X0 hown hK hP 0 rfl rfl 5 (by decide) (hts _ (List.mem_of_getElem? (i := 10) rfl)) (fun _ h9 => h9) rfl dX0_copyFrom_80 ?_
  refine lv_iconst (v := 0) hx hb dX0_copyFrom_83 (by decide) ?_
  refine lv_bipush (v := 26) hx hb dX0_copyFrom_84 (by decide) ?_
  refine x_cpy (N := 26) hx hb (hml.trans hl.1.symm) hown (hts _ (List.mem_of_getElem? (i := 2) rfl)) (hts _ (List.mem_of_getElem? (i := 3) rfl)) (hts _ (List.mem_of_getElem? (i := 4) rfl)) (hts _ (List.mem_of_getElem? (i := 5) rfl)) hK hP hD hS 13 6 0 rfl rfl rfl (by decide) (by decide) (Nat.le_of_ble_eq_true rfl) (Nat.le_of_ble_eq_true rfl) dX0_copyFrom_86 (fun H locs hP hD hS => ?_)
  have hP : va_P D vwCl (cD cy a (mkD (u 0) (u 1) (u 2) (u 3) (u 4) (u 5) (w 6 0) (w 7 0)) ++ cD cy b u) H := hP
  have hD : va_D A (cD cy a (mkD (u 0) (u 1) (u 2) (u 3) (u 4) (u 5) (w 6 0) (w 7 0)) ++ cD cy b u) := hD
  refine lv_aload_n hx hb dX0_copyFrom_89 rfl (lv_at hl 0 rfl) ?_
  refine lv_aload_n hx hb dX0_copyFrom_90 rfl (lv_at hl 1 rfl) ?_
  refine va_get (D := D) (ci := 0) (v := .int (u 6 0)) (C := RX0) (T := TX0) (N := 8) hx hb hts inX0_copyFrom_X0 hown hK hP 7 rfl rfl 6 (by decide) (hts _ (List.mem_of_getElem? (i := 11) rfl)) (fun _ h9 => h9) rfl dX0_copyFrom_91 ?_
  refine va_put (D := D) (ci := 0) (v := .int (u 6 0)) (ty := .int) (C := RX0) (T := TX0) (N := 8) hx hb hts inX0_copyFrom_X0 tyX0 tyX0_ok nmX0 hown hK hP hD hS 0 rfl rfl 6 (by decide) (hts _ (List.mem_of_getElem? (i := 11) rfl)) (fun _ h9 => h9) rfl (by decide +kernel) rfl rfl (Nat.le_of_ble_eq_true rfl) dX0_copyFrom_94 (fun H locs hP hD hS => ?_)
  have hP : va_P D vwCl (cD cy a (mkD (u 0) (u 1) (u 2) (u 3) (u 4) (u 5) (u 6 0) (w 7 0)) ++ cD cy b u) H := hP
  have hD : va_D A (cD cy a (mkD (u 0) (u 1) (u 2) (u 3) (u 4) (u 5) (u 6 0) (w 7 0)) ++ cD cy b u) := hD
  refine lv_aload_n hx hb dX0_copyFrom_97 rfl (lv_at hl 0 rfl) ?_
  refine lv_aload_n hx hb dX0_copyFrom_98 rfl (lv_at hl 1 rfl) ?_
  refine va_get (D := D) (ci := 0) (v := .int (u 7 0)) (C := RX0) (T := TX0) (N := 8) hx hb hts inX0_copyFrom_X0 hown hK hP 7 rfl rfl 7 (by decide) (hts _ (List.mem_of_getElem? (i := 12) rfl)) (fun _ h9 => h9) rfl dX0_copyFrom_99 ?_
  refine va_put (D := D) (ci := 0) (v := .int (u 7 0)) (ty := .int) (C := RX0) (T := TX0) (N := 8) hx hb hts inX0_copyFrom_X0 tyX0 tyX0_ok nmX0 hown hK hP hD hS 0 rfl rfl 7 (by decide) (hts _ (List.mem_of_getElem? (i := 12) rfl)) (fun _ h9 => h9) rfl (by decide +kernel) rfl rfl (Nat.le_of_ble_eq_true rfl) dX0_copyFrom_102 (fun H locs hP hD hS => ?_)
  have hP : va_P D vwCl (cD cy a (mkD (u 0) (u 1) (u 2) (u 3) (u 4) (u 5) (u 6 0) (u 7 0)) ++ cD cy b u) H := hP
  have hD : va_D A (cD cy a (mkD (u 0) (u 1) (u 2) (u 3) (u 4) (u 5) (u 6 0) (u 7 0)) ++ cD cy b u) := hD
  exact hret H locs _ ls hP hD hS dX0_copyFrom_105
end
section
/-! ===== State ===== -/
def szok (x : Int32) : Prop := ∃ k : Nat, 2 ≤ k ∧ k ≤ 6 ∧ x = nI k
theorem vp_mono {x : Int32} {n m : Nat} (h : vp_in x n) (hm : n ≤ m) : vp_in x m := fun q => h (q.elim Or.inl (fun z => Or.inr (Nat.le_trans hm z)))
theorem note_in (w : RV) (pl sz2 : Int32) (h : szok sz2) : vp_in (r_X0_noteFor w pl sz2) 64 := by
  obtain ⟨k, h1, h2, rfl⟩ := h
  unfold r_X0_noteFor
  generalize (if ((w 0) 0) = 0 then pl else (if ((w 0) 0) = 1 then (r_X0_pathFor w pl) else (if ((w 0) 0) = 2 then (pl + (r_X0_pathFor w pl)) else (if ((w 0) 0) = 3 then (pl ^^^ (r_X0_pathFor w pl)) else ((pl <<< (((w 0) 1) &&& 31)) + (r_X0_pathFor w pl)))))) = y
  have hk : k = 2 ∨ k = 3 ∨ k = 4 ∨ k = 5 ∨ k = 6 := by omega
  rcases hk with rfl | rfl | rfl | rfl | rfl
  · exact vp_mono (pk_andIn y 2 (by decide) (by decide)) (by decide)
  · exact vp_mono (pk_andIn y 3 (by decide) (by decide)) (by decide)
  · exact vp_mono (pk_andIn y 4 (by decide) (by decide)) (by decide)
  · exact vp_mono (pk_andIn y 5 (by decide) (by decide)) (by decide)
  · exact vp_mono (pk_andIn y 6 (by decide) (by decide)) (by decide)

def r_X3_isNote (v : SV) (i : Int32) : Int32 := (if i < 0 then (0 : Int32) else (if ((1 : Int32) <<< (((v.1 0) 0) &&& 31)) ≤ i then (0 : Int32) else (1 : Int32)))
abbrev rX3_isNote : Room := { frames := 0, cells := 0, slots := 0, locals := 0 }
theorem inX3_isNote_X3 : ∀ w ∈ u_ws RX3 TX3 11, w ∈ wsX3_isNote := by decide +kernel
theorem zn_X3_isNote (v : SV) (i : Int32) : narrow .boolean (.int (r_X3_isNote v i)) = .int (r_X3_isNote v i) := by
  unfold r_X3_isNote
  repeat' split
  all_goals rfl
set_option maxHeartbeats 4000000 in
set_option maxRecDepth 100000 in
theorem c_X3_isNote (l : Launch) (D : va_G) (cy : Nat → ClassId) (a : Nat → Nat → Nat) (v : SV) (i : Int32) (sz : Nat)  : CI l yX3_isNote wsX3_isNote rX3_isNote D cy [.ref (a 0 0), .int i] (cS cy a v) sz (r_X3_isNote v i) (cS cy a v) 0 0 := by
  refine st_i (ty := .boolean) (cc := cX3_isNote) (maxL := 2) (by decide) rfl (zn_X3_isNote v i) (Nat.le_of_ble_eq_true rfl) ?_
  intro pp e s m below meth c A Q ls hx hb hts hown hml hlocks hsz hP hK hD hE hA hl hret
  subst hsz
  have hown : s.vm.findClass RX3 = some m.cls := hown
  have hl : lv_has ls 2 [(0, .ref (a 0 0)), (1, .int i)] := hl
  obtain ⟨H, hH⟩ : ∃ H, H = s.heap := ⟨_, rfl⟩
  rw [← hH] at hP ⊢
  have hS : va_S A s.heap H [] := by rw [hH]; exact va_S.rf
  obtain ⟨locs, hlo⟩ : ∃ locs : List Loc, locs = [] := ⟨_, rfl⟩
  rw [← hlo] at hS ⊢
  refine lv_iload_n hx hb dX3_isNote_0 rfl (lv_at hl 1 rfl) ?_
  have J21_2 : ∀ (z_2 : Int32) (hz_2 : z_2 = (if i < 0 then (0 : Int32) else (if ((1 : Int32) <<< (((v.1 0) 0) &&& 31)) ≤ i then (0 : Int32) else (1 : Int32)))) (H : Heap) (locs : List Loc), va_P D vwCl (cS cy a v) H → va_D A (cS cy a v) → va_S A s.heap H locs → ∀ ls : Array Slot, lv_has ls 2 [(0, .ref (a 0 0)), (1, .int i)] → W pp l e rX3_isNote s m ([.ref (a 0 0), .int i] : List Value).toArray below meth c H locs 0 0 Q (F0 m 21 ls [.int z_2]) := by
    intro z_2 hz_2 H locs hP hD hS ls hl
    subst hz_2
    have hr9 : (if i < 0 then (0 : Int32) else (if ((1 : Int32) <<< (((v.1 0) 0) &&& 31)) ≤ i then (0 : Int32) else (1 : Int32))) = (r_X3_isNote v i) := by rfl
    exact hret _ H locs _ ls hr9 hP hD hS dX3_isNote_21
  refine lv_if_lt (tgt := 20) hx hb dX3_isNote_1 (by decide) (fun c_1 => ?_) (fun c_1 => ?_)
  · refine lv_iconst (v := 0) hx hb dX3_isNote_20 (by decide) ?_
    exact J21_2 (0 : Int32) (by simp only [if_pos c_1, if_true, if_false]) H locs hP hD hS ls (lv_sub hl [0, 1] rfl)
  · refine lv_iload_n hx hb dX3_isNote_4 rfl (lv_at hl 1 rfl) ?_
    refine lv_iconst (v := 1) hx hb dX3_isNote_5 (by decide) ?_
    refine lv_aload_n hx hb dX3_isNote_6 rfl (lv_at hl 0 rfl) ?_
    refine va_get (D := D) (ci := 2) (v := .ref ((a 0) 1)) (C := RX3) (T := TX3) (N := 11) hx hb hts inX3_isNote_X3 hown hK hP 0 rfl rfl 0 (by decide) (hts _ (List.mem_of_getElem? (i := 1) rfl)) (fun _ h9 => h9) rfl dX3_isNote_7 ?_
    refine lv_iconst (v := 0) hx hb dX3_isNote_10 (by decide) ?_
    refine x_iald (f := (v.1 0)) (j := 0) hx hb hK hP 1 0 rfl rfl rfl (vp_c (by decide)) dX3_isNote_11 ?_
    refine lv_ishl hx hb dX3_isNote_12 ?_
    refine lv_icmp_ge (tgt := 20) hx hb dX3_isNote_13 (by decide) (fun c_4 => ?_) (fun c_4 => ?_)
    · refine lv_iconst (v := 0) hx hb dX3_isNote_20 (by decide) ?_
      exact J21_2 (0 : Int32) (by simp only [if_neg c_1, if_pos c_4, if_true, if_false]) H locs hP hD hS ls (lv_sub hl [0, 1] rfl)
    · refine lv_iconst (v := 1) hx hb dX3_isNote_16 (by decide) ?_
      refine lv_goto (tgt := 21) hx hb dX3_isNote_17 (by decide) ?_
      exact J21_2 (1 : Int32) (by simp only [if_neg c_1, if_neg c_4, if_true, if_false]) H locs hP hD hS ls (lv_sub hl [0, 1] rfl)

def r_X3_isStrength (v : SV) (i : Int32) : Int32 := (if i < 0 then (0 : Int32) else (if ((2 : Int32) * ((v.1 0) 1)) ≤ i then (0 : Int32) else (1 : Int32)))
abbrev rX3_isStrength : Room := { frames := 0, cells := 0, slots := 0, locals := 0 }
theorem inX3_isStrength_X3 : ∀ w ∈ u_ws RX3 TX3 11, w ∈ wsX3_isStrength := by decide +kernel
theorem zn_X3_isStrength (v : SV) (i : Int32) : narrow .boolean (.int (r_X3_isStrength v i)) = .int (r_X3_isStrength v i) := by
  unfold r_X3_isStrength
  repeat' split
  all_goals rfl
set_option maxHeartbeats 4000000 in
set_option maxRecDepth 100000 in
theorem c_X3_isStrength (l : Launch) (D : va_G) (cy : Nat → ClassId) (a : Nat → Nat → Nat) (v : SV) (i : Int32) (sz : Nat)  : CI l yX3_isStrength wsX3_isStrength rX3_isStrength D cy [.ref (a 0 0), .int i] (cS cy a v) sz (r_X3_isStrength v i) (cS cy a v) 0 0 := by
  refine st_i (ty := .boolean) (cc := cX3_isStrength) (maxL := 2) (by decide) rfl (zn_X3_isStrength v i) (Nat.le_of_ble_eq_true rfl) ?_
  intro pp e s m below meth c A Q ls hx hb hts hown hml hlocks hsz hP hK hD hE hA hl hret
  subst hsz
  have hown : s.vm.findClass RX3 = some m.cls := hown
  have hl : lv_has ls 2 [(0, .ref (a 0 0)), (1, .int i)] := hl
  obtain ⟨H, hH⟩ : ∃ H, H = s.heap := ⟨_, rfl⟩
  rw [← hH] at hP ⊢
  have hS : va_S A s.heap H [] := by rw [hH]; exact va_S.rf
  obtain ⟨locs, hlo⟩ : ∃ locs : List Loc, locs = [] := ⟨_, rfl⟩
  rw [← hlo] at hS ⊢
  refine lv_iload_n hx hb dX3_isStrength_0 rfl (lv_at hl 1 rfl) ?_
  have J21_2 : ∀ (z_2 : Int32) (hz_2 : z_2 = (if i < 0 then (0 : Int32) else (if ((2 : Int32) * ((v.1 0) 1)) ≤ i then (0 : Int32) else (1 : Int32)))) (H : Heap) (locs : List Loc), va_P D vwCl (cS cy a v) H → va_D A (cS cy a v) → va_S A s.heap H locs → ∀ ls : Array Slot, lv_has ls 2 [(0, .ref (a 0 0)), (1, .int i)] → W pp l e rX3_isStrength s m ([.ref (a 0 0), .int i] : List Value).toArray below meth c H locs 0 0 Q (F0 m 21 ls [.int z_2]) := by
    intro z_2 hz_2 H locs hP hD hS ls hl
    subst hz_2
    have hr9 : (if i < 0 then (0 : Int32) else (if ((2 : Int32) * ((v.1 0) 1)) ≤ i then (0 : Int32) else (1 : Int32))) = (r_X3_isStrength v i) := by rfl
    exact hret _ H locs _ ls hr9 hP hD hS dX3_isStrength_21
  refine lv_if_lt (tgt := 20) hx hb dX3_isStrength_1 (by decide) (fun c_1 => ?_) (fun c_1 => ?_)
  · refine lv_iconst (v := 0) hx hb dX3_isStrength_20 (by decide) ?_
    exact J21_2 (0 : Int32) (by simp only [if_pos c_1, if_true, if_false]) H locs hP hD hS ls (lv_sub hl [0, 1] rfl)
  · refine lv_iload_n hx hb dX3_isStrength_4 rfl (lv_at hl 1 rfl) ?_
    refine lv_iconst (v := 2) hx hb dX3_isStrength_5 (by decide) ?_
    refine lv_aload_n hx hb dX3_isStrength_6 rfl (lv_at hl 0 rfl) ?_
    refine va_get (D := D) (ci := 2) (v := .ref ((a 0) 1)) (C := RX3) (T := TX3) (N := 11) hx hb hts inX3_isStrength_X3 hown hK hP 0 rfl rfl 0 (by decide) (hts _ (List.mem_of_getElem? (i := 1) rfl)) (fun _ h9 => h9) rfl dX3_isStrength_7 ?_
    refine lv_iconst (v := 1) hx hb dX3_isStrength_10 (by decide) ?_
    refine x_iald (f := (v.1 0)) (j := 1) hx hb hK hP 1 0 rfl rfl rfl (vp_c (by decide)) dX3_isStrength_11 ?_
    refine lv_imul hx hb dX3_isStrength_12 ?_
    refine lv_icmp_ge (tgt := 20) hx hb dX3_isStrength_13 (by decide) (fun c_4 => ?_) (fun c_4 => ?_)
    · refine lv_iconst (v := 0) hx hb dX3_isStrength_20 (by decide) ?_
      exact J21_2 (0 : Int32) (by simp only [if_neg c_1, if_pos c_4, if_true, if_false]) H locs hP hD hS ls (lv_sub hl [0, 1] rfl)
    · refine lv_iconst (v := 1) hx hb dX3_isStrength_16 (by decide) ?_
      refine lv_goto (tgt := 21) hx hb dX3_isStrength_17 (by decide) ?_
      exact J21_2 (1 : Int32) (by simp only [if_neg c_1, if_neg c_4, if_true, if_false]) H locs hP hD hS ls (lv_sub hl [0, 1] rfl)

def r_X3_allClashes (v : SV)  : Int32 := ((v.2.1 6 0) + (v.2.2 6 0))
abbrev rX3_allClashes : Room := { frames := 0, cells := 0, slots := 0, locals := 0 }
theorem inX3_allClashes_X0 : ∀ w ∈ u_ws RX0 TX0 8, w ∈ wsX3_allClashes := by decide +kernel
theorem inX3_allClashes_X3 : ∀ w ∈ u_ws RX3 TX3 11, w ∈ wsX3_allClashes := by decide +kernel
set_option maxHeartbeats 4000000 in
set_option maxRecDepth 100000 in
theorem c_X3_allClashes (l : Launch) (D : va_G) (cy : Nat → ClassId) (a : Nat → Nat → Nat) (v : SV)  (sz : Nat)  : CI l yX3_allClashes wsX3_allClashes rX3_allClashes D cy [.ref (a 0 0)] (cS cy a v) sz (r_X3_allClashes v) (cS cy a v) 0 0 := by
  refine st_i (ty := .int) (cc := cX3_allClashes) (maxL := 1) (by decide) rfl rfl (Nat.le_of_ble_eq_true rfl) ?_
  intro pp e s m below meth c A Q ls hx hb hts hown hml hlocks hsz hP hK hD hE hA hl hret
  subst hsz
  have hown : s.vm.findClass RX3 = some m.cls := hown
  have hl : lv_has ls 1 [(0, .ref (a 0 0))] := hl
  obtain ⟨H, hH⟩ : ∃ H, H = s.heap := ⟨_, rfl⟩
  rw [← hH] at hP ⊢
  have hS : va_S A s.heap H [] := by rw [hH]; exact va_S.rf
  obtain ⟨locs, hlo⟩ : ∃ locs : List Loc, locs = [] := ⟨_, rfl⟩
  rw [← hlo] at hS ⊢
  refine lv_aload_n hx hb dX3_allClashes_0 rfl (lv_at hl 0 rfl) ?_
  refine va_get (D := D) (ci := 2) (v := .ref ((a 0) 2)) (C := RX3) (T := TX3) (N := 11) hx hb hts inX3_allClashes_X3 hown hK hP 0 rfl rfl 1 (by decide) (hts _ (List.mem_of_getElem? (i := 1) rfl)) (fun _ h9 => h9) rfl dX3_allClashes_1 ?_
  refine lv_iconst (v := 0) hx hb dX3_allClashes_4 (by decide) ?_
  refine x_aldq (v := .ref ((a 1) 0)) hx hb hK hP 2 2 rfl rfl (vp_c (by decide)) rfl dX3_allClashes_5 ?_
  refine va_get (D := D) (ci := 0) (v := .int (v.2.1 6 0)) (C := RX0) (T := TX0) (N := 8) hx hb hts inX3_allClashes_X0 hown hK hP 7 rfl rfl 6 (by decide) (hts _ (List.mem_of_getElem? (i := 2) rfl)) (fun _ h9 => h9) rfl dX3_allClashes_6 ?_
  refine lv_aload_n hx hb dX3_allClashes_9 rfl (lv_at hl 0 rfl) ?_
  refine va_get (D := D) (ci := 2) (v := .ref ((a 0) 2)) (C := RX3) (T := TX3) (N := 11) hx hb hts inX3_allClashes_X3 hown hK hP 0 rfl rfl 1 (by decide) (hts _ (List.mem_of_getElem? (i := 1) rfl)) (fun _ h9 => h9) rfl dX3_allClashes_10 ?_
  refine lv_iconst (v := 1) hx hb dX3_allClashes_13 (by decide) ?_
  refine x_aldq (v := .ref ((a 2) 0)) hx hb hK hP 2 2 rfl rfl (vp_c (by decide)) rfl dX3_allClashes_14 ?_
  refine va_get (D := D) (ci := 0) (v := .int (v.2.2 6 0)) (C := RX0) (T := TX0) (N := 8) hx hb hts inX3_allClashes_X0 hown hK hP 14 rfl rfl 6 (by decide) (hts _ (List.mem_of_getElem? (i := 2) rfl)) (fun _ h9 => h9) rfl dX3_allClashes_15 ?_
  refine lv_iadd hx hb dX3_allClashes_18 ?_
  have hr9 : ((v.2.1 6 0) + (v.2.2 6 0)) = (r_X3_allClashes v) := by rfl
  exact hret _ H locs _ ls hr9 hP hD hS dX3_allClashes_19

def w_X3_beginAnew (v : SV)  : SV := ((mkO (v.1 0) (fun _ => (1 : Int32)) (fun _ => (0 : Int32)) (fun _ => (0 : Int32)) (fun _ => (0 : Int32)) (0 : Int32) (0 : Int32) (0 : Int32) (0 : Int32) (0 : Int32)), (w_X0_beginAnew v.2.1 ((v.1 0) 1)), (w_X0_beginAnew v.2.2 ((v.1 0) 1)))
abbrev rX3_beginAnew : Room := { frames := 2, cells := 0, slots := 0, locals := 44 }
theorem inX3_beginAnew_X3 : ∀ w ∈ u_ws RX3 TX3 11, w ∈ wsX3_beginAnew := by decide +kernel
set_option maxHeartbeats 4000000 in
set_option maxRecDepth 100000 in
theorem c_X3_beginAnew (l : Launch) (D : va_G) (cy : Nat → ClassId) (a : Nat → Nat → Nat) (v : SV)  (sz : Nat)  : CN l yX3_beginAnew wsX3_beginAnew rX3_beginAnew D cy [.ref (a 0 0)] (cS cy a v) sz (cS cy a (w_X3_beginAnew v)) 0 0 := by
  refine st_n (cc := cX3_beginAnew) (maxL := 2) (by decide) rfl (Nat.le_of_ble_eq_true rfl) ?_
  intro pp e s m below meth c A Q ls hx hb hts hown hml hlocks hsz hP hK hD hE hA hl hret
  subst hsz
  have hown : s.vm.findClass RX3 = some m.cls := hown
  have hl : lv_has ls 2 [(0, .ref (a 0 0))] := hl
  obtain ⟨H, hH⟩ : ∃ H, H = s.heap := ⟨_, rfl⟩
  rw [← hH] at hP ⊢
  have hS : va_S A s.heap H [] := by rw [hH]; exact va_S.rf
  obtain ⟨locs, hlo⟩ : ∃ locs : List Loc, locs = [] := ⟨_, rfl⟩
  rw [← hlo] at hS ⊢
  refine lv_iconst (v := 0) hx hb dX3_beginAnew_0 (by decide) ?_
  refine lv_istore_n (lv' := [(1, .int (0 : Int32)), (0, .ref (a 0 0))]) hx hb dX3_beginAnew_1 rfl hl (by decide) rfl (fun ls hl => ?_)
  refine lv_iload_n hx hb dX3_beginAnew_2 rfl (lv_at hl 0 rfl) ?_
  refine lv_iconst (v := 2) hx hb dX3_beginAnew_3 (by decide) ?_
  refine lv_icmp_ge (tgt := 28) hx hb dX3_beginAnew_4 (by decide) (fun c_1 => absurd c_1 (by decide)) (fun c_1 => ?_)
  refine lv_aload_n hx hb dX3_beginAnew_7 rfl (lv_at hl 1 rfl) ?_
  refine va_get (D := D) (ci := 2) (v := .ref ((a 0) 2)) (C := RX3) (T := TX3) (N := 11) hx hb hts inX3_beginAnew_X3 hown hK hP 0 rfl rfl 1 (by decide) (hts _ (List.mem_of_getElem? (i := 1) rfl)) (fun _ h9 => h9) rfl dX3_beginAnew_8 ?_
  refine lv_iload_n hx hb dX3_beginAnew_11 rfl (lv_at hl 0 rfl) ?_
  refine x_aldq (v := .ref ((a 1) 0)) hx hb hK hP 2 2 rfl rfl (vp_c (by decide)) rfl dX3_beginAnew_12 ?_
  refine lv_aload_n hx hb dX3_beginAnew_13 rfl (lv_at hl 1 rfl) ?_
  refine va_get (D := D) (ci := 2) (v := .ref ((a 0) 1)) (C := RX3) (T := TX3) (N := 11) hx hb hts inX3_beginAnew_X3 hown hK hP 0 rfl rfl 0 (by decide) (hts _ (List.mem_of_getElem? (i := 2) rfl)) (fun _ h9 => h9) rfl dX3_beginAnew_14 ?_
  refine lv_iconst (v := 1) hx hb dX3_beginAnew_17 (by decide) ?_
  refine x_iald (f := (v.1 0)) (j := 1) hx hb hK hP 1 0 rfl rfl rfl (vp_c (by decide)) dX3_beginAnew_18 ?_
  refine cl_n (va_runV (As := [.int ((v.1 0) 1)]) (rest := []) ⟨hx, hb, hml, hown, hts⟩ (c_X0_beginAnew l D cy (a 1) v.2.1 ((v.1 0) 1) H.size) (cwV 1 hts gX3_beginAnew_X0_beginAnew rfl rfl rfl (by decide +kernel) ⟨Nat.le_of_ble_eq_true rfl, Nat.le_of_ble_eq_true rfl⟩) ⟨blU, va_recv hK hP (ci := 0) (q0 := 7) rfl rfl, preU hP hD (pmB (bS cy a v) 1 _ (cD cy (a 1) (w_X0_beginAnew v.2.1 ((v.1 0) 1))) rfl).1 hK hE hS hA⟩ rfl rfl hl.1 rfl (lv_room (Nat.le_of_ble_eq_true rfl)) dX3_beginAnew_19 ⟨Nat.le_of_ble_eq_true rfl, Nat.le_of_ble_eq_true rfl⟩) hP hD (pmB (bS cy a v) 1 _ (cD cy (a 1) (w_X0_beginAnew v.2.1 ((v.1 0) 1))) rfl).1 hS hA (fun H locs hP hD hS => ?_)
  have hP : va_P D vwCl (cS cy a (v.1, (w_X0_beginAnew v.2.1 ((v.1 0) 1)), v.2.2)) H := vP_perm hP (pmB (bS cy a v) 1 _ (cD cy (a 1) (w_X0_beginAnew v.2.1 ((v.1 0) 1))) rfl).2
  have hD : va_D A (cS cy a (v.1, (w_X0_beginAnew v.2.1 ((v.1 0) 1)), v.2.2)) := vD_perm hD (pmB (bS cy a v) 1 _ (cD cy (a 1) (w_X0_beginAnew v.2.1 ((v.1 0) 1))) rfl).2
  refine lv_iinc (v := (1 : Int32)) (lv' := [(1, .int (1 : Int32)), (0, .ref (a 0 0))]) hx hb dX3_beginAnew_22 hl (k := 0) rfl (by decide) (by decide) rfl (fun ls hl => ?_)
  refine lv_goto (tgt := 2) hx hb dX3_beginAnew_25 (by decide) ?_
  refine lv_iload_n hx hb dX3_beginAnew_2 rfl (lv_at hl 0 rfl) ?_
  refine lv_iconst (v := 2) hx hb dX3_beginAnew_3 (by decide) ?_
  refine lv_icmp_ge (tgt := 28) hx hb dX3_beginAnew_4 (by decide) (fun c_2 => absurd c_2 (by decide)) (fun c_2 => ?_)
  refine lv_aload_n hx hb dX3_beginAnew_7 rfl (lv_at hl 1 rfl) ?_
  refine va_get (D := D) (ci := 2) (v := .ref ((a 0) 2)) (C := RX3) (T := TX3) (N := 11) hx hb hts inX3_beginAnew_X3 hown hK hP 0 rfl rfl 1 (by decide) (hts _ (List.mem_of_getElem? (i := 1) rfl)) (fun _ h9 => h9) rfl dX3_beginAnew_8 ?_
  refine lv_iload_n hx hb dX3_beginAnew_11 rfl (lv_at hl 0 rfl) ?_
  refine x_aldq (v := .ref ((a 2) 0)) hx hb hK hP 2 2 rfl rfl (vp_c (by decide)) rfl dX3_beginAnew_12 ?_
  refine lv_aload_n hx hb dX3_beginAnew_13 rfl (lv_at hl 1 rfl) ?_
  refine va_get (D := D) (ci := 2) (v := .ref ((a 0) 1)) (C := RX3) (T := TX3) (N := 11) hx hb hts inX3_beginAnew_X3 hown hK hP 0 rfl rfl 0 (by decide) (hts _ (List.mem_of_getElem? (i := 2) rfl)) (fun _ h9 => h9) rfl dX3_beginAnew_14 ?_
  refine lv_iconst (v := 1) hx hb dX3_beginAnew_17 (by decide) ?_
  refine x_iald (f := (v.1 0)) (j := 1) hx hb hK hP 1 0 rfl rfl rfl (vp_c (by decide)) dX3_beginAnew_18 ?_
  refine cl_n (va_runV (As := [.int ((v.1 0) 1)]) (rest := []) ⟨hx, hb, hml, hown, hts⟩ (c_X0_beginAnew l D cy (a 2) v.2.2 ((v.1 0) 1) H.size) (cwV 1 hts gX3_beginAnew_X0_beginAnew rfl rfl rfl (by decide +kernel) ⟨Nat.le_of_ble_eq_true rfl, Nat.le_of_ble_eq_true rfl⟩) ⟨blU, va_recv hK hP (ci := 0) (q0 := 14) rfl rfl, preU hP hD (pmB (bS cy a (v.1, (w_X0_beginAnew v.2.1 ((v.1 0) 1)), v.2.2)) 2 _ (cD cy (a 2) (w_X0_beginAnew v.2.2 ((v.1 0) 1))) rfl).1 hK hE hS hA⟩ rfl rfl hl.1 rfl (lv_room (Nat.le_of_ble_eq_true rfl)) dX3_beginAnew_19 ⟨Nat.le_of_ble_eq_true rfl, Nat.le_of_ble_eq_true rfl⟩) hP hD (pmB (bS cy a (v.1, (w_X0_beginAnew v.2.1 ((v.1 0) 1)), v.2.2)) 2 _ (cD cy (a 2) (w_X0_beginAnew v.2.2 ((v.1 0) 1))) rfl).1 hS hA (fun H locs hP hD hS => ?_)
  have hP : va_P D vwCl (cS cy a (v.1, (w_X0_beginAnew v.2.1 ((v.1 0) 1)), (w_X0_beginAnew v.2.2 ((v.1 0) 1)))) H := vP_perm hP (pmB (bS cy a (v.1, (w_X0_beginAnew v.2.1 ((v.1 0) 1)), v.2.2)) 2 _ (cD cy (a 2) (w_X0_beginAnew v.2.2 ((v.1 0) 1))) rfl).2
  have hD : va_D A (cS cy a (v.1, (w_X0_beginAnew v.2.1 ((v.1 0) 1)), (w_X0_beginAnew v.2.2 ((v.1 0) 1)))) := vD_perm hD (pmB (bS cy a (v.1, (w_X0_beginAnew v.2.1 ((v.1 0) 1)), v.2.2)) 2 _ (cD cy (a 2) (w_X0_beginAnew v.2.2 ((v.1 0) 1))) rfl).2
  refine lv_iinc (v := (2 : Int32)) (lv' := [(1, .int (2 : Int32)), (0, .ref (a 0 0))]) hx hb dX3_beginAnew_22 hl (k := 0) rfl (by decide) (by decide) rfl (fun ls hl => ?_)
  refine lv_goto (tgt := 2) hx hb dX3_beginAnew_25 (by decide) ?_
  refine lv_iload_n hx hb dX3_beginAnew_2 rfl (lv_at hl 0 rfl) ?_
  refine lv_iconst (v := 2) hx hb dX3_beginAnew_3 (by decide) ?_
  refine lv_icmp_ge (tgt := 28) hx hb dX3_beginAnew_4 (by decide) (fun c_3 => ?_) (fun c_3 => absurd (by decide) c_3)
  refine lv_aload_n hx hb dX3_beginAnew_28 rfl (lv_at hl 1 rfl) ?_
  refine va_get (D := D) (ci := 2) (v := .ref ((a 0) 3)) (C := RX3) (T := TX3) (N := 11) hx hb hts inX3_beginAnew_X3 hown hK hP 0 rfl rfl 2 (by decide) (hts _ (List.mem_of_getElem? (i := 3) rfl)) (fun _ h9 => h9) rfl dX3_beginAnew_29 ?_
  refine lv_iconst (v := 1) hx hb dX3_beginAnew_32 (by decide) ?_
  refine x_fill (n := 26) ⟨hx, hb, hml, hown, hts⟩ (va_cwS 2 hts gX3_beginAnew_J7_fill_53178 rfl rfl rfl (by decide +kernel) ⟨Nat.le_of_ble_eq_true rfl, Nat.le_of_ble_eq_true rfl⟩) hK hP hD hS hA hE 3 rfl (by decide) hl.1 (lv_room (Nat.le_of_ble_eq_true rfl)) dX3_beginAnew_33 ⟨Nat.le_of_ble_eq_true rfl, Nat.le_of_ble_eq_true rfl⟩ (fun H locs hP hD hS => ?_)
  have hP : va_P D vwCl (cS cy a ((mkO (v.1 0) (fun _ => (1 : Int32)) (v.1 2) (v.1 3) (v.1 4) (v.1 5 0) (v.1 6 0) (v.1 7 0) (v.1 8 0) (v.1 9 0)), (w_X0_beginAnew v.2.1 ((v.1 0) 1)), (w_X0_beginAnew v.2.2 ((v.1 0) 1)))) H := hP
  have hD : va_D A (cS cy a ((mkO (v.1 0) (fun _ => (1 : Int32)) (v.1 2) (v.1 3) (v.1 4) (v.1 5 0) (v.1 6 0) (v.1 7 0) (v.1 8 0) (v.1 9 0)), (w_X0_beginAnew v.2.1 ((v.1 0) 1)), (w_X0_beginAnew v.2.2 ((v.1 0) 1)))) := hD
  refine lv_aload_n hx hb dX3_beginAnew_36 rfl (lv_at hl 1 rfl) ?_
  refine va_get (D := D) (ci := 2) (v := .ref ((a 0) 4)) (C := RX3) (T := TX3) (N := 11) hx hb hts inX3_beginAnew_X3 hown hK hP 0 rfl rfl 3 (by decide) (hts _ (List.mem_of_getElem? (i := 4) rfl)) (fun _ h9 => h9) rfl dX3_beginAnew_37 ?_
  refine lv_iconst (v := 0) hx hb dX3_beginAnew_40 (by decide) ?_
  refine x_fill (n := 26) ⟨hx, hb, hml, hown, hts⟩ (va_cwS 2 hts gX3_beginAnew_J7_fill_53178 rfl rfl rfl (by decide +kernel) ⟨Nat.le_of_ble_eq_true rfl, Nat.le_of_ble_eq_true rfl⟩) hK hP hD hS hA hE 4 rfl (by decide) hl.1 (lv_room (Nat.le_of_ble_eq_true rfl)) dX3_beginAnew_41 ⟨Nat.le_of_ble_eq_true rfl, Nat.le_of_ble_eq_true rfl⟩ (fun H locs hP hD hS => ?_)
  have hP : va_P D vwCl (cS cy a ((mkO (v.1 0) (fun _ => (1 : Int32)) (fun _ => (0 : Int32)) (v.1 3) (v.1 4) (v.1 5 0) (v.1 6 0) (v.1 7 0) (v.1 8 0) (v.1 9 0)), (w_X0_beginAnew v.2.1 ((v.1 0) 1)), (w_X0_beginAnew v.2.2 ((v.1 0) 1)))) H := hP
  have hD : va_D A (cS cy a ((mkO (v.1 0) (fun _ => (1 : Int32)) (fun _ => (0 : Int32)) (v.1 3) (v.1 4) (v.1 5 0) (v.1 6 0) (v.1 7 0) (v.1 8 0) (v.1 9 0)), (w_X0_beginAnew v.2.1 ((v.1 0) 1)), (w_X0_beginAnew v.2.2 ((v.1 0) 1)))) := hD
  refine lv_aload_n hx hb dX3_beginAnew_44 rfl (lv_at hl 1 rfl) ?_
  refine va_get (D := D) (ci := 2) (v := .ref ((a 0) 5)) (C := RX3) (T := TX3) (N := 11) hx hb hts inX3_beginAnew_X3 hown hK hP 0 rfl rfl 4 (by decide) (hts _ (List.mem_of_getElem? (i := 5) rfl)) (fun _ h9 => h9) rfl dX3_beginAnew_45 ?_
  refine lv_iconst (v := 0) hx hb dX3_beginAnew_48 (by decide) ?_
  refine x_fill (n := 26) ⟨hx, hb, hml, hown, hts⟩ (va_cwS 2 hts gX3_beginAnew_J7_fill_53178 rfl rfl rfl (by decide +kernel) ⟨Nat.le_of_ble_eq_true rfl, Nat.le_of_ble_eq_true rfl⟩) hK hP hD hS hA hE 5 rfl (by decide) hl.1 (lv_room (Nat.le_of_ble_eq_true rfl)) dX3_beginAnew_49 ⟨Nat.le_of_ble_eq_true rfl, Nat.le_of_ble_eq_true rfl⟩ (fun H locs hP hD hS => ?_)
  have hP : va_P D vwCl (cS cy a ((mkO (v.1 0) (fun _ => (1 : Int32)) (fun _ => (0 : Int32)) (fun _ => (0 : Int32)) (v.1 4) (v.1 5 0) (v.1 6 0) (v.1 7 0) (v.1 8 0) (v.1 9 0)), (w_X0_beginAnew v.2.1 ((v.1 0) 1)), (w_X0_beginAnew v.2.2 ((v.1 0) 1)))) H := hP
  have hD : va_D A (cS cy a ((mkO (v.1 0) (fun _ => (1 : Int32)) (fun _ => (0 : Int32)) (fun _ => (0 : Int32)) (v.1 4) (v.1 5 0) (v.1 6 0) (v.1 7 0) (v.1 8 0) (v.1 9 0)), (w_X0_beginAnew v.2.1 ((v.1 0) 1)), (w_X0_beginAnew v.2.2 ((v.1 0) 1)))) := hD
  refine lv_aload_n hx hb dX3_beginAnew_52 rfl (lv_at hl 1 rfl) ?_
  refine va_get (D := D) (ci := 2) (v := .ref ((a 0) 6)) (C := RX3) (T := TX3) (N := 11) hx hb hts inX3_beginAnew_X3 hown hK hP 0 rfl rfl 5 (by decide) (hts _ (List.mem_of_getElem? (i := 6) rfl)) (fun _ h9 => h9) rfl dX3_beginAnew_53 ?_
  refine lv_iconst (v := 0) hx hb dX3_beginAnew_56 (by decide) ?_
  refine x_fill (n := 26) ⟨hx, hb, hml, hown, hts⟩ (va_cwS 2 hts gX3_beginAnew_J7_fill_53178 rfl rfl rfl (by decide +kernel) ⟨Nat.le_of_ble_eq_true rfl, Nat.le_of_ble_eq_true rfl⟩) hK hP hD hS hA hE 6 rfl (by decide) hl.1 (lv_room (Nat.le_of_ble_eq_true rfl)) dX3_beginAnew_57 ⟨Nat.le_of_ble_eq_true rfl, Nat.le_of_ble_eq_true rfl⟩ (fun H locs hP hD hS => ?_)
  have hP : va_P D vwCl (cS cy a ((mkO (v.1 0) (fun _ => (1 : Int32)) (fun _ => (0 : Int32)) (fun _ => (0 : Int32)) (fun _ => (0 : Int32)) (v.1 5 0) (v.1 6 0) (v.1 7 0) (v.1 8 0) (v.1 9 0)), (w_X0_beginAnew v.2.1 ((v.1 0) 1)), (w_X0_beginAnew v.2.2 ((v.1 0) 1)))) H := hP
  have hD : va_D A (cS cy a ((mkO (v.1 0) (fun _ => (1 : Int32)) (fun _ => (0 : Int32)) (fun _ => (0 : Int32)) (fun _ => (0 : Int32)) (v.1 5 0) (v.1 6 0) (v.1 7 0) (v.1 8 0) (v.1 9 0)), (w_X0_beginAnew v.2.1 ((v.1 0) 1)), (w_X0_beginAnew v.2.2 ((v.1 0) 1)))) := hD
  refine lv_aload_n hx hb dX3_beginAnew_60 rfl (lv_at hl 1 rfl) ?_
  refine lv_iconst (v := 0) hx hb dX3_beginAnew_61 (by decide) ?_
  refine va_put (D := D) (ci := 2) (v := .int (0 : Int32)) (ty := .int) (C := RX3) (T := TX3) (N := 11) hx hb hts inX3_beginAnew_X3 tyX3 tyX3_ok nmX3 hown hK hP hD hS 0 rfl rfl 6 (by decide) (hts _ (List.mem_of_getElem? (i := 7) rfl)) (fun _ h9 => h9) rfl (by decide +kernel) rfl rfl (Nat.le_of_ble_eq_true rfl) dX3_beginAnew_62 (fun H locs hP hD hS => ?_)
  have hP : va_P D vwCl (cS cy a ((mkO (v.1 0) (fun _ => (1 : Int32)) (fun _ => (0 : Int32)) (fun _ => (0 : Int32)) (fun _ => (0 : Int32)) (0 : Int32) (v.1 6 0) (v.1 7 0) (v.1 8 0) (v.1 9 0)), (w_X0_beginAnew v.2.1 ((v.1 0) 1)), (w_X0_beginAnew v.2.2 ((v.1 0) 1)))) H := hP
  have hD : va_D A (cS cy a ((mkO (v.1 0) (fun _ => (1 : Int32)) (fun _ => (0 : Int32)) (fun _ => (0 : Int32)) (fun _ => (0 : Int32)) (0 : Int32) (v.1 6 0) (v.1 7 0) (v.1 8 0) (v.1 9 0)), (w_X0_beginAnew v.2.1 ((v.1 0) 1)), (w_X0_beginAnew v.2.2 ((v.1 0) 1)))) := hD
  refine lv_aload_n hx hb dX3_beginAnew_65 rfl (lv_at hl 1 rfl) ?_
  refine lv_iconst (v := 0) hx hb dX3_beginAnew_66 (by decide) ?_
  refine va_put (D := D) (ci := 2) (v := .int (0 : Int32)) (ty := .int) (C := RX3) (T := TX3) (N := 11) hx hb hts inX3_beginAnew_X3 tyX3 tyX3_ok nmX3 hown hK hP hD hS 0 rfl rfl 7 (by decide) (hts _ (List.mem_of_getElem? (i := 8) rfl)) (fun _ h9 => h9) rfl (by decide +kernel) rfl rfl (Nat.le_of_ble_eq_true rfl) dX3_beginAnew_67 (fun H locs hP hD hS => ?_)
  have hP : va_P D vwCl (cS cy a ((mkO (v.1 0) (fun _ => (1 : Int32)) (fun _ => (0 : Int32)) (fun _ => (0 : Int32)) (fun _ => (0 : Int32)) (0 : Int32) (0 : Int32) (v.1 7 0) (v.1 8 0) (v.1 9 0)), (w_X0_beginAnew v.2.1 ((v.1 0) 1)), (w_X0_beginAnew v.2.2 ((v.1 0) 1)))) H := hP
  have hD : va_D A (cS cy a ((mkO (v.1 0) (fun _ => (1 : Int32)) (fun _ => (0 : Int32)) (fun _ => (0 : Int32)) (fun _ => (0 : Int32)) (0 : Int32) (0 : Int32) (v.1 7 0) (v.1 8 0) (v.1 9 0)), (w_X0_beginAnew v.2.1 ((v.1 0) 1)), (w_X0_beginAnew v.2.2 ((v.1 0) 1)))) := hD
  refine lv_aload_n hx hb dX3_beginAnew_70 rfl (lv_at hl 1 rfl) ?_
  refine lv_iconst (v := 0) hx hb dX3_beginAnew_71 (by decide) ?_
  refine va_put (D := D) (ci := 2) (v := .int (0 : Int32)) (ty := .int) (C := RX3) (T := TX3) (N := 11) hx hb hts inX3_beginAnew_X3 tyX3 tyX3_ok nmX3 hown hK hP hD hS 0 rfl rfl 8 (by decide) (hts _ (List.mem_of_getElem? (i := 9) rfl)) (fun _ h9 => h9) rfl (by decide +kernel) rfl rfl (Nat.le_of_ble_eq_true rfl) dX3_beginAnew_72 (fun H locs hP hD hS => ?_)
  have hP : va_P D vwCl (cS cy a ((mkO (v.1 0) (fun _ => (1 : Int32)) (fun _ => (0 : Int32)) (fun _ => (0 : Int32)) (fun _ => (0 : Int32)) (0 : Int32) (0 : Int32) (0 : Int32) (v.1 8 0) (v.1 9 0)), (w_X0_beginAnew v.2.1 ((v.1 0) 1)), (w_X0_beginAnew v.2.2 ((v.1 0) 1)))) H := hP
  have hD : va_D A (cS cy a ((mkO (v.1 0) (fun _ => (1 : Int32)) (fun _ => (0 : Int32)) (fun _ => (0 : Int32)) (fun _ => (0 : Int32)) (0 : Int32) (0 : Int32) (0 : Int32) (v.1 8 0) (v.1 9 0)), (w_X0_beginAnew v.2.1 ((v.1 0) 1)), (w_X0_beginAnew v.2.2 ((v.1 0) 1)))) := hD
  refine lv_aload_n hx hb dX3_beginAnew_75 rfl (lv_at hl 1 rfl) ?_
  refine lv_iconst (v := 0) hx hb dX3_beginAnew_76 (by decide) ?_
  refine va_put (D := D) (ci := 2) (v := .int (0 : Int32)) (ty := .int) (C := RX3) (T := TX3) (N := 11) hx hb hts inX3_beginAnew_X3 tyX3 tyX3_ok nmX3 hown hK hP hD hS 0 rfl rfl 9 (by decide) (hts _ (List.mem_of_getElem? (i := 10) rfl)) (fun _ h9 => h9) rfl (by decide +kernel) rfl rfl (Nat.le_of_ble_eq_true rfl) dX3_beginAnew_77 (fun H locs hP hD hS => ?_)
  have hP : va_P D vwCl (cS cy a ((mkO (v.1 0) (fun _ => (1 : Int32)) (fun _ => (0 : Int32)) (fun _ => (0 : Int32)) (fun _ => (0 : Int32)) (0 : Int32) (0 : Int32) (0 : Int32) (0 : Int32) (v.1 9 0)), (w_X0_beginAnew v.2.1 ((v.1 0) 1)), (w_X0_beginAnew v.2.2 ((v.1 0) 1)))) H := hP
  have hD : va_D A (cS cy a ((mkO (v.1 0) (fun _ => (1 : Int32)) (fun _ => (0 : Int32)) (fun _ => (0 : Int32)) (fun _ => (0 : Int32)) (0 : Int32) (0 : Int32) (0 : Int32) (0 : Int32) (v.1 9 0)), (w_X0_beginAnew v.2.1 ((v.1 0) 1)), (w_X0_beginAnew v.2.2 ((v.1 0) 1)))) := hD
  refine lv_aload_n hx hb dX3_beginAnew_80 rfl (lv_at hl 1 rfl) ?_
  refine lv_iconst (v := 0) hx hb dX3_beginAnew_81 (by decide) ?_
  refine va_put (D := D) (ci := 2) (v := .int (0 : Int32)) (ty := .int) (C := RX3) (T := TX3) (N := 11) hx hb hts inX3_beginAnew_X3 tyX3 tyX3_ok nmX3 hown hK hP hD hS 0 rfl rfl 10 (by decide) (hts _ (List.mem_of_getElem? (i := 11) rfl)) (fun _ h9 => h9) rfl (by decide +kernel) rfl rfl (Nat.le_of_ble_eq_true rfl) dX3_beginAnew_82 (fun H locs hP hD hS => ?_)
  have hP : va_P D vwCl (cS cy a ((mkO (v.1 0) (fun _ => (1 : Int32)) (fun _ => (0 : Int32)) (fun _ => (0 : Int32)) (fun _ => (0 : Int32)) (0 : Int32) (0 : Int32) (0 : Int32) (0 : Int32) (0 : Int32)), (w_X0_beginAnew v.2.1 ((v.1 0) 1)), (w_X0_beginAnew v.2.2 ((v.1 0) 1)))) H := hP
  have hD : va_D A (cS cy a ((mkO (v.1 0) (fun _ => (1 : Int32)) (fun _ => (0 : Int32)) (fun _ => (0 : Int32)) (fun _ => (0 : Int32)) (0 : Int32) (0 : Int32) (0 : Int32) (0 : Int32) (0 : Int32)), (w_X0_beginAnew v.2.1 ((v.1 0) 1)), (w_X0_beginAnew v.2.2 ((v.1 0) 1)))) := hD
  have hw9 : (w_X3_beginAnew v) = ((mkO (v.1 0) (fun _ => (1 : Int32)) (fun _ => (0 : Int32)) (fun _ => (0 : Int32)) (fun _ => (0 : Int32)) (0 : Int32) (0 : Int32) (0 : Int32) (0 : Int32) (0 : Int32)), (w_X0_beginAnew v.2.1 ((v.1 0) 1)), (w_X0_beginAnew v.2.2 ((v.1 0) 1))) := by rfl
  exact hret H locs _ ls (by rw [hw9]; exact hP) (by rw [hw9]; exact hD) hS dX3_beginAnew_85

abbrev rX3_copyFrom : Room := { frames := 2, cells := 0, slots := 0, locals := 81 }
theorem inX3_copyFrom_X3 : ∀ w ∈ u_ws RX3 TX3 11, w ∈ wsX3_copyFrom := by decide +kernel
set_option maxHeartbeats 4000000 in
set_option maxRecDepth 100000 in
theorem c_X3_copyFrom (l : Launch) (D : va_G) (cy : Nat → ClassId) (a : Nat → Nat → Nat) (b : Nat → Nat → Nat) (v : SV) (u : SV)  (sz : Nat)  : CN l yX3_copyFrom wsX3_copyFrom rX3_copyFrom D cy [.ref (a 0 0), .ref (b 0 0)] (cS cy a v ++ cS cy b u) sz (cS cy a u ++ cS cy b u) 0 0 := by
  refine st_n (cc := cX3_copyFrom) (maxL := 3) (by decide) rfl (Nat.le_of_ble_eq_true rfl) ?_
  intro pp e s m below meth c A Q ls hx hb hts hown hml hlocks hsz hP hK hD hE hA hl hret
  subst hsz
  have hown : s.vm.findClass RX3 = some m.cls := hown
  have hl : lv_has ls 3 [(0, .ref (a 0 0)), (1, .ref (b 0 0))] := hl
  obtain ⟨H, hH⟩ : ∃ H, H = s.heap := ⟨_, rfl⟩
  rw [← hH] at hP ⊢
  have hS : va_S A s.heap H [] := by rw [hH]; exact va_S.rf
  obtain ⟨locs, hlo⟩ : ∃ locs : List Loc, locs = [] := ⟨_, rfl⟩
  rw [← hlo] at hS ⊢
  refine lv_aload_n hx hb dX3_copyFrom_0 rfl (lv_at hl 1 rfl) ?_
  refine va_get (D := D) (ci := 2) (v := .ref ((b 0) 1)) (C := RX3) (T := TX3) (N := 11) hx hb hts inX3_copyFrom_X3 hown hK hP 21 rfl rfl 0 (by decide) (hts _ (List.mem_of_getElem? (i := 1) rfl)) (fun _ h9 => h9) rfl dX3_copyFrom_1 ?_
  refine lv_iconst (v := 0) hx hb dX3_copyFrom_4 (by decide) ?_
  refine lv_aload_n hx hb dX3_copyFrom_5 rfl (lv_at hl 0 rfl) ?_
  refine va_get (D := D) (ci := 2) (v := .ref ((a 0) 1)) (C := RX3) (T := TX3) (N := 11) hx hb hts inX3_copyFrom_X3 hown hK hP 0 rfl rfl 0 (by decide) (hts _ (List.mem_of_getElem? (i := 1) rfl)) (fun _ h9 => h9) rfl dX3_copyFrom_6 ?_
  refine lv_iconst (v := 0) hx hb dX3_copyFrom_9 (by decide) ?_
  refine lv_iconst (v := 3) hx hb dX3_copyFrom_10 (by decide) ?_
  refine x_cpy (N := 3) hx hb (hml.trans hl.1.symm) hown (hts _ (List.mem_of_getElem? (i := 2) rfl)) (hts _ (List.mem_of_getElem? (i := 3) rfl)) (hts _ (List.mem_of_getElem? (i := 4) rfl)) (hts _ (List.mem_of_getElem? (i := 5) rfl)) hK hP hD hS 22 1 0 rfl rfl rfl (by decide) (by decide) (Nat.le_of_ble_eq_true rfl) (Nat.le_of_ble_eq_true rfl) dX3_copyFrom_11 (fun H locs hP hD hS => ?_)
  have hP : va_P D vwCl (cS cy a ((mkO (u.1 0) (v.1 1) (v.1 2) (v.1 3) (v.1 4) (v.1 5 0) (v.1 6 0) (v.1 7 0) (v.1 8 0) (v.1 9 0)), v.2.1, v.2.2) ++ cS cy b u) H := hP
  have hD : va_D A (cS cy a ((mkO (u.1 0) (v.1 1) (v.1 2) (v.1 3) (v.1 4) (v.1 5 0) (v.1 6 0) (v.1 7 0) (v.1 8 0) (v.1 9 0)), v.2.1, v.2.2) ++ cS cy b u) := hD
  refine lv_iconst (v := 0) hx hb dX3_copyFrom_14 (by decide) ?_
  refine lv_istore_n (lv' := [(2, .int (0 : Int32)), (0, .ref (a 0 0)), (1, .ref (b 0 0))]) hx hb dX3_copyFrom_15 rfl hl (by decide) rfl (fun ls hl => ?_)
  refine lv_iload_n hx hb dX3_copyFrom_16 rfl (lv_at hl 0 rfl) ?_
  refine lv_iconst (v := 2) hx hb dX3_copyFrom_17 (by decide) ?_
  refine lv_icmp_ge (tgt := 42) hx hb dX3_copyFrom_18 (by decide) (fun c_1 => absurd c_1 (by decide)) (fun c_1 => ?_)
  refine lv_aload_n hx hb dX3_copyFrom_21 rfl (lv_at hl 1 rfl) ?_
  refine va_get (D := D) (ci := 2) (v := .ref ((a 0) 2)) (C := RX3) (T := TX3) (N := 11) hx hb hts inX3_copyFrom_X3 hown hK hP 0 rfl rfl 1 (by decide) (hts _ (List.mem_of_getElem? (i := 6) rfl)) (fun _ h9 => h9) rfl dX3_copyFrom_22 ?_
  refine lv_iload_n hx hb dX3_copyFrom_25 rfl (lv_at hl 0 rfl) ?_
  refine x_aldq (v := .ref ((a 1) 0)) hx hb hK hP 2 2 rfl rfl (vp_c (by decide)) rfl dX3_copyFrom_26 ?_
  refine lv_aload_n hx hb dX3_copyFrom_27 rfl (lv_at hl 2 rfl) ?_
  refine va_get (D := D) (ci := 2) (v := .ref ((b 0) 2)) (C := RX3) (T := TX3) (N := 11) hx hb hts inX3_copyFrom_X3 hown hK hP 21 rfl rfl 1 (by decide) (hts _ (List.mem_of_getElem? (i := 6) rfl)) (fun _ h9 => h9) rfl dX3_copyFrom_28 ?_
  refine lv_iload_n hx hb dX3_copyFrom_31 rfl (lv_at hl 0 rfl) ?_
  refine x_aldq (v := .ref ((b 1) 0)) hx hb hK hP 23 2 rfl rfl (vp_c (by decide)) rfl dX3_copyFrom_32 ?_
  refine cl_n (va_runV (As := [.ref ((b 1) 0)]) (rest := []) ⟨hx, hb, hml, hown, hts⟩ (c_X0_copyFrom l D cy (a 1) (b 1) v.2.1 u.2.1 H.size) (cwV 1 hts gX3_copyFrom_X0_copyFrom rfl rfl rfl (by decide +kernel) ⟨Nat.le_of_ble_eq_true rfl, Nat.le_of_ble_eq_true rfl⟩) ⟨blU, va_recv hK hP (ci := 0) (q0 := 7) rfl rfl, preU hP hD (pmB2 (bS cy a ((mkO (u.1 0) (v.1 1) (v.1 2) (v.1 3) (v.1 4) (v.1 5 0) (v.1 6 0) (v.1 7 0) (v.1 8 0) (v.1 9 0)), v.2.1, v.2.2) ++ bS cy b u) 1 3 _ _ (cD cy (a 1) u.2.1) (cD cy (b 1) u.2.1) rfl rfl).1 hK hE hS hA⟩ rfl rfl hl.1 rfl (lv_room (Nat.le_of_ble_eq_true rfl)) dX3_copyFrom_33 ⟨Nat.le_of_ble_eq_true rfl, Nat.le_of_ble_eq_true rfl⟩) hP hD (pmB2 (bS cy a ((mkO (u.1 0) (v.1 1) (v.1 2) (v.1 3) (v.1 4) (v.1 5 0) (v.1 6 0) (v.1 7 0) (v.1 8 0) (v.1 9 0)), v.2.1, v.2.2) ++ bS cy b u) 1 3 _ _ (cD cy (a 1) u.2.1) (cD cy (b 1) u.2.1) rfl rfl).1 hS hA (fun H locs hP hD hS => ?_)
  have hP : va_P D vwCl (cS cy a ((mkO (u.1 0) (v.1 1) (v.1 2) (v.1 3) (v.1 4) (v.1 5 0) (v.1 6 0) (v.1 7 0) (v.1 8 0) (v.1 9 0)), u.2.1, v.2.2) ++ cS cy b u) H := vP_perm hP ((pmB2 (bS cy a ((mkO (u.1 0) (v.1 1) (v.1 2) (v.1 3) (v.1 4) (v.1 5 0) (v.1 6 0) (v.1 7 0) (v.1 8 0) (v.1 9 0)), v.2.1, v.2.2) ++ bS cy b u) 1 3 _ _ (cD cy (a 1) u.2.1) (cD cy (b 1) u.2.1) rfl rfl).2.trans (pmB (bS cy a ((mkO (u.1 0) (v.1 1) (v.1 2) (v.1 3) (v.1 4) (v.1 5 0) (v.1 6 0) (v.1 7 0) (v.1 8 0) (v.1 9 0)), u.2.1, v.2.2) ++ bS cy b u) 1 _ (cD cy (a 1) u.2.1) rfl).1.symm)
  have hD : va_D A (cS cy a ((mkO (u.1 0) (v.1 1) (v.1 2) (v.1 3) (v.1 4) (v.1 5 0) (v.1 6 0) (v.1 7 0) (v.1 8 0) (v.1 9 0)), u.2.1, v.2.2) ++ cS cy b u) := vD_perm hD ((pmB2 (bS cy a ((mkO (u.1 0) (v.1 1) (v.1 2) (v.1 3) (v.1 4) (v.1 5 0) (v.1 6 0) (v.1 7 0) (v.1 8 0) (v.1 9 0)), v.2.1, v.2.2) ++ bS cy b u) 1 3 _ _ (cD cy (a 1) u.2.1) (cD cy (b 1) u.2.1) rfl rfl).2.trans (pmB (bS cy a ((mkO (u.1 0) (v.1 1) (v.1 2) (v.1 3) (v.1 4) (v.1 5 0) (v.1 6 0) (v.1 7 0) (v.1 8 0) (v.1 9 0)), u.2.1, v.2.2) ++ bS cy b u) 1 _ (cD cy (a 1) u.2.1) rfl).1.symm)
  refine lv_iinc (v := (1 : Int32)) (lv' := [(2, .int (1 : Int32)), (0, .ref (a 0 0)), (1, .ref (b 0 0))]) hx hb dX3_copyFrom_36 hl (k := 0) rfl (by decide) (by decide) rfl (fun ls hl => ?_)
  refine lv_goto (tgt := 16) hx hb dX3_copyFrom_39 (by decide) ?_
  refine lv_iload_n hx hb dX3_copyFrom_16 rfl (lv_at hl 0 rfl) ?_
  refine lv_iconst (v := 2) hx hb dX3_copyFrom_17 (by decide) ?_
  refine lv_icmp_ge (tgt := 42) hx hb dX3_copyFrom_18 (by decide) (fun c_2 => absurd c_2 (by decide)) (fun c_2 => ?_)
  refine lv_aload_n hx hb dX3_copyFrom_21 rfl (lv_at hl 1 rfl) ?_
  refine va_get (D := D) (ci := 2) (v := .ref ((a 0) 2)) (C := RX3) (T := TX3) (N := 11) hx hb hts inX3_copyFrom_X3 hown hK hP 0 rfl rfl 1 (by decide) (hts _ (List.mem_of_getElem? (i := 6) rfl)) (fun _ h9 => h9) rfl dX3_copyFrom_22 ?_
  refine lv_iload_n hx hb dX3_copyFrom_25 rfl (lv_at hl 0 rfl) ?_
  refine x_aldq (v := .ref ((a 2) 0)) hx hb hK hP 2 2 rfl rfl (vp_c (by decide)) rfl dX3_copyFrom_26 ?_
  refine lv_aload_n hx hb dX3_copyFrom_27 rfl (lv_at hl 2 rfl) ?_
  refine va_get (D := D) (ci := 2) (v := .ref ((b 0) 2)) (C := RX3) (T := TX3) (N := 11) hx hb hts inX3_copyFrom_X3 hown hK hP 21 rfl rfl 1 (by decide) (hts _ (List.mem_of_getElem? (i := 6) rfl)) (fun _ h9 => h9) rfl dX3_copyFrom_28 ?_
  refine lv_iload_n hx hb dX3_copyFrom_31 rfl (lv_at hl 0 rfl) ?_
  refine x_aldq (v := .ref ((b 2) 0)) hx hb hK hP 23 2 rfl rfl (vp_c (by decide)) rfl dX3_copyFrom_32 ?_
  refine cl_n (va_runV (As := [.ref ((b 2) 0)]) (rest := []) ⟨hx, hb, hml, hown, hts⟩ (c_X0_copyFrom l D cy (a 2) (b 2) v.2.2 u.2.2 H.size) (cwV 1 hts gX3_copyFrom_X0_copyFrom rfl rfl rfl (by decide +kernel) ⟨Nat.le_of_ble_eq_true rfl, Nat.le_of_ble_eq_true rfl⟩) ⟨blU, va_recv hK hP (ci := 0) (q0 := 14) rfl rfl, preU hP hD (pmB2 (bS cy a ((mkO (u.1 0) (v.1 1) (v.1 2) (v.1 3) (v.1 4) (v.1 5 0) (v.1 6 0) (v.1 7 0) (v.1 8 0) (v.1 9 0)), u.2.1, v.2.2) ++ bS cy b u) 2 4 _ _ (cD cy (a 2) u.2.2) (cD cy (b 2) u.2.2) rfl rfl).1 hK hE hS hA⟩ rfl rfl hl.1 rfl (lv_room (Nat.le_of_ble_eq_true rfl)) dX3_copyFrom_33 ⟨Nat.le_of_ble_eq_true rfl, Nat.le_of_ble_eq_true rfl⟩) hP hD (pmB2 (bS cy a ((mkO (u.1 0) (v.1 1) (v.1 2) (v.1 3) (v.1 4) (v.1 5 0) (v.1 6 0) (v.1 7 0) (v.1 8 0) (v.1 9 0)), u.2.1, v.2.2) ++ bS cy b u) 2 4 _ _ (cD cy (a 2) u.2.2) (cD cy (b 2) u.2.2) rfl rfl).1 hS hA (fun H locs hP hD hS => ?_)
  have hP : va_P D vwCl (cS cy a ((mkO (u.1 0) (v.1 1) (v.1 2) (v.1 3) (v.1 4) (v.1 5 0) (v.1 6 0) (v.1 7 0) (v.1 8 0) (v.1 9 0)), u.2.1, u.2.2) ++ cS cy b u) H := vP_perm hP ((pmB2 (bS cy a ((mkO (u.1 0) (v.1 1) (v.1 2) (v.1 3) (v.1 4) (v.1 5 0) (v.1 6 0) (v.1 7 0) (v.1 8 0) (v.1 9 0)), u.2.1, v.2.2) ++ bS cy b u) 2 4 _ _ (cD cy (a 2) u.2.2) (cD cy (b 2) u.2.2) rfl rfl).2.trans (pmB (bS cy a ((mkO (u.1 0) (v.1 1) (v.1 2) (v.1 3) (v.1 4) (v.1 5 0) (v.1 6 0) (v.1 7 0) (v.1 8 0) (v.1 9 0)), u.2.1, u.2.2) ++ bS cy b u) 2 _ (cD cy (a 2) u.2.2) rfl).1.symm)
  have hD : va_D A (cS cy a ((mkO (u.1 0) (v.1 1) (v.1 2) (v.1 3) (v.1 4) (v.1 5 0) (v.1 6 0) (v.1 7 0) (v.1 8 0) (v.1 9 0)), u.2.1, u.2.2) ++ cS cy b u) := vD_perm hD ((pmB2 (bS cy a ((mkO (u.1 0) (v.1 1) (v.1 2) (v.1 3) (v.1 4) (v.1 5 0) (v.1 6 0) (v.1 7 0) (v.1 8 0) (v.1 9 0)), u.2.1, v.2.2) ++ bS cy b u) 2 4 _ _ (cD cy (a 2) u.2.2) (cD cy (b 2) u.2.2) rfl rfl).2.trans (pmB (bS cy a ((mkO (u.1 0) (v.1 1) (v.1 2) (v.1 3) (v.1 4) (v.1 5 0) (v.1 6 0) (v.1 7 0) (v.1 8 0) (v.1 9 0)), u.2.1, u.2.2) ++ bS cy b u) 2 _ (cD cy (a 2) u.2.2) rfl).1.symm)
  refine lv_iinc (v := (2 : Int32)) (lv' := [(2, .int (2 : Int32)), (0, .ref (a 0 0)), (1, .ref (b 0 0))]) hx hb dX3_copyFrom_36 hl (k := 0) rfl (by decide) (by decide) rfl (fun ls hl => ?_)
  refine lv_goto (tgt := 16) hx hb dX3_copyFrom_39 (by decide) ?_
  refine lv_iload_n hx hb dX3_copyFrom_16 rfl (lv_at hl 0 rfl) ?_
  refine lv_iconst (v := 2) hx hb dX3_copyFrom_17 (by decide) ?_
  refine lv_icmp_ge (tgt := 42) hx hb dX3_copyFrom_18 (by decide) (fun c_3 => ?_) (fun c_3 => absurd (by decide) c_3)
  refine lv_aload_n hx hb dX3_copyFrom_42 rfl (lv_at hl 2 rfl) ?_
  refine va_get (D := D) (ci := 2) (v := .ref ((b 0) 3)) (C := RX3) (T := TX3) (N := 11) hx hb hts inX3_copyFrom_X3 hown hK hP 21 rfl rfl 2 (by decide) (hts _ (List.mem_of_getElem? (i := 7) rfl)) (fun _ h9 => h9) rfl dX3_copyFrom_43 ?_
  refine lv_iconst (v := 0) hx hb dX3_copyFrom_46 (by decide) ?_
  refine lv_aload_n hx hb dX3_copyFrom_47 rfl (lv_at hl 1 rfl) ?_
  refine va_get (D := D) (ci := 2) (v := .ref ((a 0) 3)) (C := RX3) (T := TX3) (N := 11) hx hb hts inX3_copyFrom_X3 hown hK hP 0 rfl rfl 2 (by decide) (hts _ (List.mem_of_getElem? (i := 7) rfl)) (fun _ h9 => h9) rfl dX3_copyFrom_48 ?_
  refine lv_iconst (v := 0) hx hb dX3_copyFrom_51 (by decide) ?_
  refine lv_bipush (v := 26) hx hb dX3_copyFrom_52 (by decide) ?_
  refine x_cpy (N := 26) hx hb (hml.trans hl.1.symm) hown (hts _ (List.mem_of_getElem? (i := 2) rfl)) (hts _ (List.mem_of_getElem? (i := 3) rfl)) (hts _ (List.mem_of_getElem? (i := 4) rfl)) (hts _ (List.mem_of_getElem? (i := 5) rfl)) hK hP hD hS 24 3 0 rfl rfl rfl (by decide) (by decide) (Nat.le_of_ble_eq_true rfl) (Nat.le_of_ble_eq_true rfl) dX3_copyFrom_54 (fun H locs hP hD hS => ?_)
  have hP : va_P D vwCl (cS cy a ((mkO (u.1 0) (u.1 1) (v.1 2) (v.1 3) (v.1 4) (v.1 5 0) (v.1 6 0) (v.1 7 0) (v.1 8 0) (v.1 9 0)), u.2.1, u.2.2) ++ cS cy b u) H := hP
  have hD : va_D A (cS cy a ((mkO (u.1 0) (u.1 1) (v.1 2) (v.1 3) (v.1 4) (v.1 5 0) (v.1 6 0) (v.1 7 0) (v.1 8 0) (v.1 9 0)), u.2.1, u.2.2) ++ cS cy b u) := hD
  refine lv_aload_n hx hb dX3_copyFrom_57 rfl (lv_at hl 2 rfl) ?_
  refine va_get (D := D) (ci := 2) (v := .ref ((b 0) 4)) (C := RX3) (T := TX3) (N := 11) hx hb hts inX3_copyFrom_X3 hown hK hP 21 rfl rfl 3 (by decide) (hts _ (List.mem_of_getElem? (i := 8) rfl)) (fun _ h9 => h9) rfl dX3_copyFrom_58 ?_
  refine lv_iconst (v := 0) hx hb dX3_copyFrom_61 (by decide) ?_
  refine lv_aload_n hx hb dX3_copyFrom_62 rfl (lv_at hl 1 rfl) ?_
  refine va_get (D := D) (ci := 2) (v := .ref ((a 0) 4)) (C := RX3) (T := TX3) (N := 11) hx hb hts inX3_copyFrom_X3 hown hK hP 0 rfl rfl 3 (by decide) (hts _ (List.mem_of_getElem? (i := 8) rfl)) (fun _ h9 => h9) rfl dX3_copyFrom_63 ?_
  refine lv_iconst (v := 0) hx hb dX3_copyFrom_66 (by decide) ?_
  refine lv_bipush (v := 26) hx hb dX3_copyFrom_67 (by decide) ?_
  refine x_cpy (N := 26) hx hb (hml.trans hl.1.symm) hown (hts _ (List.mem_of_getElem? (i := 2) rfl)) (hts _ (List.mem_of_getElem? (i := 3) rfl)) (hts _ (List.mem_of_getElem? (i := 4) rfl)) (hts _ (List.mem_of_getElem? (i := 5) rfl)) hK hP hD hS 25 4 0 rfl rfl rfl (by decide) (by decide) (Nat.le_of_ble_eq_true rfl) (Nat.le_of_ble_eq_true rfl) dX3_copyFrom_69 (fun H locs hP hD hS => ?_)
  have hP : va_P D vwCl (cS cy a ((mkO (u.1 0) (u.1 1) (u.1 2) (v.1 3) (v.1 4) (v.1 5 0) (v.1 6 0) (v.1 7 0) (v.1 8 0) (v.1 9 0)), u.2.1, u.2.2) ++ cS cy b u) H := hP
  have hD : va_D A (cS cy a ((mkO (u.1 0) (u.1 1) (u.1 2) (v.1 3) (v.1 4) (v.1 5 0) (v.1 6 0) (v.1 7 0) (v.1 8 0) (v.1 9 0)), u.2.1, u.2.2) ++ cS cy b u) := hD
  refine lv_aload_n hx hb dX3_copyFrom_72 rfl (lv_at hl 2 rfl) ?_
  refine va_get (D := D) (ci := 2) (v := .ref ((b 0) 5)) (C := RX3) (T := TX3) (N := 11) hx hb hts inX3_copyFrom_X3 hown hK hP 21 rfl rfl 4 (by decide) (hts _ (List.mem_of_getElem? (i := 9) rfl)) (fun _ h9 => h9) rfl dX3_copyFrom_73 ?_
  refine lv_iconst (v := 0) hx hb dX3_copyFrom_76 (by decide) ?_
  refine lv_aload_n hx hb dX3_copyFrom_77 rfl (lv_at hl 1 rfl) ?_
  refine va_get (D := D) (ci := 2) (v := .ref ((a 0) 5)) (C := RX3) (T := TX3) (N := 11) hx hb hts inX3_copyFrom_X3 hown hK hP 0 rfl rfl 4 (by decide) (hts _ (List.mem_of_getElem? (i := 9) rfl)) (fun _ h9 => h9) rfl dX3_copyFrom_78 ?_
  refine lv_iconst (v := 0) hx hb dX3_copyFrom_81 (by decide) ?_
  refine lv_bipush (v := 26) hx hb dX3_copyFrom_82 (by decide) ?_
  refine x_cpy (N := 26) hx hb (hml.trans hl.1.symm) hown (hts _ (List.mem_of_getElem? (i := 2) rfl)) (hts _ (List.mem_of_getElem? (i := 3) rfl)) (hts _ (List.mem_of_getElem? (i := 4) rfl)) (hts _ (List.mem_of_getElem? (i := 5) rfl)) hK hP hD hS 26 5 0 rfl rfl rfl (by decide) (by decide) (Nat.le_of_ble_eq_true rfl) (Nat.le_of_ble_eq_true rfl) dX3_copyFrom_84 (fun H locs hP hD hS => ?_)
  have hP : va_P D vwCl (cS cy a ((mkO (u.1 0) (u.1 1) (u.1 2) (u.1 3) (v.1 4) (v.1 5 0) (v.1 6 0) (v.1 7 0) (v.1 8 0) (v.1 9 0)), u.2.1, u.2.2) ++ cS cy b u) H := hP
  have hD : va_D A (cS cy a ((mkO (u.1 0) (u.1 1) (u.1 2) (u.1 3) (v.1 4) (v.1 5 0) (v.1 6 0) (v.1 7 0) (v.1 8 0) (v.1 9 0)), u.2.1, u.2.2) ++ cS cy b u) := hD
  refine lv_aload_n hx hb dX3_copyFrom_87 rfl (lv_at hl 2 rfl) ?_
  refine va_get (D := D) (ci := 2) (v := .ref ((b 0) 6)) (C := RX3) (T := TX3) (N := 11) hx hb hts inX3_copyFrom_X3 hown hK hP 21 rfl rfl 5 (by decide) (hts _ (List.mem_of_getElem? (i := 10) rfl)) (fun _ h9 => h9) rfl dX3_copyFrom_88 ?_
  refine lv_iconst (v := 0) hx hb dX3_copyFrom_91 (by decide) ?_
  refine lv_aload_n hx hb dX3_copyFrom_92 rfl (lv_at hl 1 rfl) ?_
  refine va_get (D := D) (ci := 2) (v := .ref ((a 0) 6)) (C := RX3) (T := TX3) (N := 11) hx hb hts inX3_copyFrom_X3 hown hK hP 0 rfl rfl 5 (by decide) (hts _ (List.mem_of_getElem? (i := 10) rfl)) (fun _ h9 => h9) rfl dX3_copyFrom_93 ?_
  refine lv_iconst (v := 0) hx hb dX3_copyFrom_96 (by decide) ?_
  refine lv_bipush (v := 26) hx hb dX3_copyFrom_97 (by decide) ?_
  refine x_cpy (N := 26) hx hb (hml.trans hl.1.symm) hown (hts _ (List.mem_of_getElem? (i := 2) rfl)) (hts _ (List.mem_of_getElem? (i := 3) rfl)) (hts _ (List.mem_of_getElem? (i := 4) rfl)) (hts _ (List.mem_of_getElem? (i := 5) rfl)) hK hP hD hS 27 6 0 rfl rfl rfl (by decide) (by decide) (Nat.le_of_ble_eq_true rfl) (Nat.le_of_ble_eq_true rfl) dX3_copyFrom_99 (fun H locs hP hD hS => ?_)
  have hP : va_P D vwCl (cS cy a ((mkO (u.1 0) (u.1 1) (u.1 2) (u.1 3) (u.1 4) (v.1 5 0) (v.1 6 0) (v.1 7 0) (v.1 8 0) (v.1 9 0)), u.2.1, u.2.2) ++ cS cy b u) H := hP
  have hD : va_D A (cS cy a ((mkO (u.1 0) (u.1 1) (u.1 2) (u.1 3) (u.1 4) (v.1 5 0) (v.1 6 0) (v.1 7 0) (v.1 8 0) (v.1 9 0)), u.2.1, u.2.2) ++ cS cy b u) := hD
  refine lv_aload_n hx hb dX3_copyFrom_102 rfl (lv_at hl 1 rfl) ?_
  refine lv_aload_n hx hb dX3_copyFrom_103 rfl (lv_at hl 2 rfl) ?_
  refine va_get (D := D) (ci := 2) (v := .int (u.1 5 0)) (C := RX3) (T := TX3) (N := 11) hx hb hts inX3_copyFrom_X3 hown hK hP 21 rfl rfl 6 (by decide) (hts _ (List.mem_of_getElem? (i := 11) rfl)) (fun _ h9 => h9) rfl dX3_copyFrom_104 ?_
  refine va_put (D := D) (ci := 2) (v := .int (u.1 5 0)) (ty := .int) (C := RX3) (T := TX3) (N := 11) hx hb hts inX3_copyFrom_X3 tyX3 tyX3_ok nmX3 hown hK hP hD hS 0 rfl rfl 6 (by decide) (hts _ (List.mem_of_getElem? (i := 11) rfl)) (fun _ h9 => h9) rfl (by decide +kernel) rfl rfl (Nat.le_of_ble_eq_true rfl) dX3_copyFrom_107 (fun H locs hP hD hS => ?_)
  have hP : va_P D vwCl (cS cy a ((mkO (u.1 0) (u.1 1) (u.1 2) (u.1 3) (u.1 4) (u.1 5 0) (v.1 6 0) (v.1 7 0) (v.1 8 0) (v.1 9 0)), u.2.1, u.2.2) ++ cS cy b u) H := hP
  have hD : va_D A (cS cy a ((mkO (u.1 0) (u.1 1) (u.1 2) (u.1 3) (u.1 4) (u.1 5 0) (v.1 6 0) (v.1 7 0) (v.1 8 0) (v.1 9 0)), u.2.1, u.2.2) ++ cS cy b u) := hD
  refine lv_aload_n hx hb dX3_copyFrom_110 rfl (lv_at hl 1 rfl) ?_
  refine lv_aload_n hx hb dX3_copyFrom_111 rfl (lv_at hl 2 rfl) ?_
  refine va_get (D := D) (ci := 2) (v := .int (u.1 6 0)) (C := RX3) (T := TX3) (N := 11) hx hb hts inX3_copyFrom_X3 hown hK hP 21 rfl rfl 7 (by decide) (hts _ (List.mem_of_getElem? (i := 12) rfl)) (fun _ h9 => h9) rfl dX3_copyFrom_112 ?_
  refine va_put (D := D) (ci := 2) (v := .int (u.1 6 0)) (ty := .int) (C := RX3) (T := TX3) (N := 11) hx hb hts inX3_copyFrom_X3 tyX3 tyX3_ok nmX3 hown hK hP hD hS 0 rfl rfl 7 (by decide) (hts _ (List.mem_of_getElem? (i := 12) rfl)) (fun _ h9 => h9) rfl (by decide +kernel) rfl rfl (Nat.le_of_ble_eq_true rfl) dX3_copyFrom_115 (fun H locs hP hD hS => ?_)
  have hP : va_P D vwCl (cS cy a ((mkO (u.1 0) (u.1 1) (u.1 2) (u.1 3) (u.1 4) (u.1 5 0) (u.1 6 0) (v.1 7 0) (v.1 8 0) (v.1 9 0)), u.2.1, u.2.2) ++ cS cy b u) H := hP
  have hD : va_D A (cS cy a ((mkO (u.1 0) (u.1 1) (u.1 2) (u.1 3) (u.1 4) (u.1 5 0) (u.1 6 0) (v.1 7 0) (v.1 8 0) (v.1 9 0)), u.2.1, u.2.2) ++ cS cy b u) := hD
  refine lv_aload_n hx hb dX3_copyFrom_118 rfl (lv_at hl 1 rfl) ?_
  refine lv_aload_n hx hb dX3_copyFrom_119 rfl (lv_at hl 2 rfl) ?_
  refine va_get (D := D) (ci := 2) (v := .int (u.1 7 0)) (C := RX3) (T := TX3) (N := 11) hx hb hts inX3_copyFrom_X3 hown hK hP 21 rfl rfl 8 (by decide) (hts _ (List.mem_of_getElem? (i := 13) rfl)) (fun _ h9 => h9) rfl dX3_copyFrom_120 ?_
  refine va_put (D := D) (ci := 2) (v := .int (u.1 7 0)) (ty := .int) (C := RX3) (T := TX3) (N := 11) hx hb hts inX3_copyFrom_X3 tyX3 tyX3_ok nmX3 hown hK hP hD hS 0 rfl rfl 8 (by decide) (hts _ (List.mem_of_getElem? (i := 13) rfl)) (fun _ h9 => h9) rfl (by decide +kernel) rfl rfl (Nat.le_of_ble_eq_true rfl) dX3_copyFrom_123 (fun H locs hP hD hS => ?_)
  have hP : va_P D vwCl (cS cy a ((mkO (u.1 0) (u.1 1) (u.1 2) (u.1 3) (u.1 4) (u.1 5 0) (u.1 6 0) (u.1 7 0) (v.1 8 0) (v.1 9 0)), u.2.1, u.2.2) ++ cS cy b u) H := hP
  have hD : va_D A (cS cy a ((mkO (u.1 0) (u.1 1) (u.1 2) (u.1 3) (u.1 4) (u.1 5 0) (u.1 6 0) (u.1 7 0) (v.1 8 0) (v.1 9 0)), u.2.1, u.2.2) ++ cS cy b u) := hD
  refine lv_aload_n hx hb dX3_copyFrom_126 rfl (lv_at hl 1 rfl) ?_
  refine lv_aload_n hx hb dX3_copyFrom_127 rfl (lv_at hl 2 rfl) ?_
  refine va_get (D := D) (ci := 2) (v := .int (u.1 8 0)) (C := RX3) (T := TX3) (N := 11) hx hb hts inX3_copyFrom_X3 hown hK hP 21 rfl rfl 9 (by decide) (hts _ (List.mem_of_getElem? (i := 14) rfl)) (fun _ h9 => h9) rfl dX3_copyFrom_128 ?_
  refine va_put (D := D) (ci := 2) (v := .int (u.1 8 0)) (ty := .int) (C := RX3) (T := TX3) (N := 11) hx hb hts inX3_copyFrom_X3 tyX3 tyX3_ok nmX3 hown hK hP hD hS 0 rfl rfl 9 (by decide) (hts _ (List.mem_of_getElem? (i := 14) rfl)) (fun _ h9 => h9) rfl (by decide +kernel) rfl rfl (Nat.le_of_ble_eq_true rfl) dX3_copyFrom_131 (fun H locs hP hD hS => ?_)
  have hP : va_P D vwCl (cS cy a ((mkO (u.1 0) (u.1 1) (u.1 2) (u.1 3) (u.1 4) (u.1 5 0) (u.1 6 0) (u.1 7 0) (u.1 8 0) (v.1 9 0)), u.2.1, u.2.2) ++ cS cy b u) H := hP
  have hD : va_D A (cS cy a ((mkO (u.1 0) (u.1 1) (u.1 2) (u.1 3) (u.1 4) (u.1 5 0) (u.1 6 0) (u.1 7 0) (u.1 8 0) (v.1 9 0)), u.2.1, u.2.2) ++ cS cy b u) := hD
  refine lv_aload_n hx hb dX3_copyFrom_134 rfl (lv_at hl 1 rfl) ?_
  refine lv_aload_n hx hb dX3_copyFrom_135 rfl (lv_at hl 2 rfl) ?_
  refine va_get (D := D) (ci := 2) (v := .int (u.1 9 0)) (C := RX3) (T := TX3) (N := 11) hx hb hts inX3_copyFrom_X3 hown hK hP 21 rfl rfl 10 (by decide) (hts _ (List.mem_of_getElem? (i := 15) rfl)) (fun _ h9 => h9) rfl dX3_copyFrom_136 ?_
  refine va_put (D := D) (ci := 2) (v := .int (u.1 9 0)) (ty := .int) (C := RX3) (T := TX3) (N := 11) hx hb hts inX3_copyFrom_X3 tyX3 tyX3_ok nmX3 hown hK hP hD hS 0 rfl rfl 10 (by decide) (hts _ (List.mem_of_getElem? (i := 15) rfl)) (fun _ h9 => h9) rfl (by decide +kernel) rfl rfl (Nat.le_of_ble_eq_true rfl) dX3_copyFrom_139 (fun H locs hP hD hS => ?_)
  have hP : va_P D vwCl (cS cy a ((mkO (u.1 0) (u.1 1) (u.1 2) (u.1 3) (u.1 4) (u.1 5 0) (u.1 6 0) (u.1 7 0) (u.1 8 0) (u.1 9 0)), u.2.1, u.2.2) ++ cS cy b u) H := hP
  have hD : va_D A (cS cy a ((mkO (u.1 0) (u.1 1) (u.1 2) (u.1 3) (u.1 4) (u.1 5 0) (u.1 6 0) (u.1 7 0) (u.1 8 0) (u.1 9 0)), u.2.1, u.2.2) ++ cS cy b u) := hD
  exact hret H locs _ ls hP hD hS dX3_copyFrom_142

def w_X3_changeBoth (v : SV) (what : Int32) (val2 : Int32) : SV := (w_X3_beginAnew ((mkO (upd (v.1 0) what.toNatClampNeg val2) (v.1 1) (v.1 2) (v.1 3) (v.1 4) (v.1 5 0) (v.1 6 0) (v.1 7 0) (v.1 8 0) (v.1 9 0)), v.2.1, v.2.2))
abbrev rX3_changeBoth : Room := { frames := 3, cells := 0, slots := 0, locals := 65 }
theorem inX3_changeBoth_X3 : ∀ w ∈ u_ws RX3 TX3 11, w ∈ wsX3_changeBoth := by decide +kernel
set_option maxHeartbeats 4000000 in
set_option maxRecDepth 100000 in
theorem c_X3_changeBoth (l : Launch) (D : va_G) (cy : Nat → ClassId) (a : Nat → Nat → Nat) (v : SV) (what : Int32) (val2 : Int32) (sz : Nat) (hw : vp_in what 3) : CN l yX3_changeBoth wsX3_changeBoth rX3_changeBoth D cy [.ref (a 0 0), .int what, .int val2] (cS cy a v) sz (cS cy a (w_X3_changeBoth v what val2)) 0 0 := by
  refine st_n (cc := cX3_changeBoth) (maxL := 3) (by decide) rfl (Nat.le_of_ble_eq_true rfl) ?_
  intro pp e s m below meth c A Q ls hx hb hts hown hml hlocks hsz hP hK hD hE hA hl hret
  subst hsz
  have hown : s.vm.findClass RX3 = some m.cls := hown
  have hl : lv_has ls 3 [(0, .ref (a 0 0)), (1, .int what), (2, .int val2)] := hl
  obtain ⟨H, hH⟩ : ∃ H, H = s.heap := ⟨_, rfl⟩
  rw [← hH] at hP ⊢
  have hS : va_S A s.heap H [] := by rw [hH]; exact va_S.rf
  obtain ⟨locs, hlo⟩ : ∃ locs : List Loc, locs = [] := ⟨_, rfl⟩
  rw [← hlo] at hS ⊢
  refine lv_aload_n hx hb dX3_changeBoth_0 rfl (lv_at hl 0 rfl) ?_
  refine va_get (D := D) (ci := 2) (v := .ref ((a 0) 1)) (C := RX3) (T := TX3) (N := 11) hx hb hts inX3_changeBoth_X3 hown hK hP 0 rfl rfl 0 (by decide) (hts _ (List.mem_of_getElem? (i := 1) rfl)) (fun _ h9 => h9) rfl dX3_changeBoth_1 ?_
  refine lv_iload_n hx hb dX3_changeBoth_4 rfl (lv_at hl 1 rfl) ?_
  refine lv_iload_n hx hb dX3_changeBoth_5 rfl (lv_at hl 2 rfl) ?_
  refine x_iast (j := what.toNatClampNeg) hx hb hK hP hD hS 1 0 rfl rfl rfl hw dX3_changeBoth_6 (fun H locs hP hD hS => ?_)
  have hP : va_P D vwCl (cS cy a ((mkO (upd (v.1 0) what.toNatClampNeg val2) (v.1 1) (v.1 2) (v.1 3) (v.1 4) (v.1 5 0) (v.1 6 0) (v.1 7 0) (v.1 8 0) (v.1 9 0)), v.2.1, v.2.2)) H := hP
  have hD : va_D A (cS cy a ((mkO (upd (v.1 0) what.toNatClampNeg val2) (v.1 1) (v.1 2) (v.1 3) (v.1 4) (v.1 5 0) (v.1 6 0) (v.1 7 0) (v.1 8 0) (v.1 9 0)), v.2.1, v.2.2)) := hD
  refine lv_aload_n hx hb dX3_changeBoth_7 rfl (lv_at hl 0 rfl) ?_
  refine cl_n (va_runV (As := []) (rest := []) ⟨hx, hb, hml, hown, hts⟩ (c_X3_beginAnew l D cy a ((mkO (upd (v.1 0) what.toNatClampNeg val2) (v.1 1) (v.1 2) (v.1 3) (v.1 4) (v.1 5 0) (v.1 6 0) (v.1 7 0) (v.1 8 0) (v.1 9 0)), v.2.1, v.2.2) H.size) (cwV 0 hts gX3_changeBoth_X3_beginAnew rfl rfl rfl (by decide +kernel) ⟨Nat.le_of_ble_eq_true rfl, Nat.le_of_ble_eq_true rfl⟩) ⟨blU, va_recv hK hP (ci := 2) (q0 := 0) rfl rfl, preU hP hD (pmI _) hK hE hS hA⟩ rfl rfl hl.1 rfl (lv_room (Nat.le_of_ble_eq_true rfl)) dX3_changeBoth_8 ⟨Nat.le_of_ble_eq_true rfl, Nat.le_of_ble_eq_true rfl⟩) hP hD (pmI _) hS hA (fun H locs hP hD hS => ?_)
  have hP : va_P D vwCl (cS cy a (w_X3_beginAnew ((mkO (upd (v.1 0) what.toNatClampNeg val2) (v.1 1) (v.1 2) (v.1 3) (v.1 4) (v.1 5 0) (v.1 6 0) (v.1 7 0) (v.1 8 0) (v.1 9 0)), v.2.1, v.2.2))) H := vP_perm hP (pmI _).symm
  have hD : va_D A (cS cy a (w_X3_beginAnew ((mkO (upd (v.1 0) what.toNatClampNeg val2) (v.1 1) (v.1 2) (v.1 3) (v.1 4) (v.1 5 0) (v.1 6 0) (v.1 7 0) (v.1 8 0) (v.1 9 0)), v.2.1, v.2.2))) := vD_perm hD (pmI _).symm
  have hw9 : (w_X3_changeBoth v what val2) = (w_X3_beginAnew ((mkO (upd (v.1 0) what.toNatClampNeg val2) (v.1 1) (v.1 2) (v.1 3) (v.1 4) (v.1 5 0) (v.1 6 0) (v.1 7 0) (v.1 8 0) (v.1 9 0)), v.2.1, v.2.2)) := by rfl
  exact hret H locs _ ls (by rw [hw9]; exact hP) (by rw [hw9]; exact hD) hS dX3_changeBoth_11

def r_X3_noteFor (v : SV) (d : Int32) (pl : Int32) : Int32 := (if d = 0 then (r_X0_noteFor v.2.1 pl ((v.1 0) 0)) else (r_X0_noteFor v.2.2 pl ((v.1 0) 0)))
abbrev rX3_noteFor : Room := { frames := 2, cells := 0, slots := 0, locals := 45 }
theorem inX3_noteFor_X3 : ∀ w ∈ u_ws RX3 TX3 11, w ∈ wsX3_noteFor := by decide +kernel
set_option maxHeartbeats 4000000 in
set_option maxRecDepth 100000 in
theorem c_X3_noteFor (l : Launch) (D : va_G) (cy : Nat → ClassId) (a : Nat → Nat → Nat) (v : SV) (d : Int32) (pl : Int32) (sz : Nat) (hd : d = 0 ∨ d = 1) (hpl : vp_in pl 26) : CI l yX3_noteFor wsX3_noteFor rX3_noteFor D cy [.ref (a 0 0), .int d, .int pl] (cS cy a v) sz (r_X3_noteFor v d pl) (cS cy a v) 0 0 := by
  refine st_i (ty := .int) (cc := cX3_noteFor) (maxL := 3) (by decide) rfl rfl (Nat.le_of_ble_eq_true rfl) ?_
  intro pp e s m below meth c A Q ls hx hb hts hown hml hlocks hsz hP hK hD hE hA hl hret
  subst hsz
  have hown : s.vm.findClass RX3 = some m.cls := hown
  have hl : lv_has ls 3 [(0, .ref (a 0 0)), (1, .int d), (2, .int pl)] := hl
  obtain ⟨H, hH⟩ : ∃ H, H = s.heap := ⟨_, rfl⟩
  rw [← hH] at hP ⊢
  have hS : va_S A s.heap H [] := by rw [hH]; exact va_S.rf
  obtain ⟨locs, hlo⟩ : ∃ locs : List Loc, locs = [] := ⟨_, rfl⟩
  rw [← hlo] at hS ⊢
  rcases hd with hd | hd
  · subst hd
    have hd0 : (0 : Int32) = 0 := by decide
    have hl : lv_has ls 3 [(0, .ref (a 0 0)), (1, .int (0 : Int32)), (2, .int pl)] := hl
    refine lv_aload_n hx hb dX3_noteFor_0 rfl (lv_at hl 0 rfl) ?_
    refine va_get (D := D) (ci := 2) (v := .ref ((a 0) 2)) (C := RX3) (T := TX3) (N := 11) hx hb hts inX3_noteFor_X3 hown hK hP 0 rfl rfl 1 (by decide) (hts _ (List.mem_of_getElem? (i := 1) rfl)) (fun _ h9 => h9) rfl dX3_noteFor_1 ?_
    refine lv_iload_n hx hb dX3_noteFor_4 rfl (lv_at hl 1 rfl) ?_
    refine x_aldq (v := .ref ((a 1) 0)) hx hb hK hP 2 2 rfl rfl (vp_c (by decide)) rfl dX3_noteFor_5 ?_
    refine lv_iload_n hx hb dX3_noteFor_6 rfl (lv_at hl 2 rfl) ?_
    refine lv_aload_n hx hb dX3_noteFor_7 rfl (lv_at hl 0 rfl) ?_
    refine va_get (D := D) (ci := 2) (v := .ref ((a 0) 1)) (C := RX3) (T := TX3) (N := 11) hx hb hts inX3_noteFor_X3 hown hK hP 0 rfl rfl 0 (by decide) (hts _ (List.mem_of_getElem? (i := 2) rfl)) (fun _ h9 => h9) rfl dX3_noteFor_8 ?_
    refine lv_iconst (v := 0) hx hb dX3_noteFor_11 (by decide) ?_
    refine x_iald (f := (v.1 0)) (j := 0) hx hb hK hP 1 0 rfl rfl rfl (vp_c (by decide)) dX3_noteFor_12 ?_
    refine cl_i (va_runV (As := [.int pl, .int ((v.1 0) 0)]) (rest := []) ⟨hx, hb, hml, hown, hts⟩ (c_X0_noteFor l D cy (a 1) v.2.1 pl ((v.1 0) 0) H.size hpl) (cwV 2 hts gX3_noteFor_X0_noteFor rfl rfl rfl (by decide +kernel) ⟨Nat.le_of_ble_eq_true rfl, Nat.le_of_ble_eq_true rfl⟩) ⟨blU, va_recv hK hP (ci := 0) (q0 := 7) rfl rfl, preU hP hD (pmB (bS cy a v) 1 _ (cD cy (a 1) v.2.1) rfl).1 hK hE hS hA⟩ rfl rfl hl.1 rfl (lv_room (Nat.le_of_ble_eq_true rfl)) dX3_noteFor_13 ⟨Nat.le_of_ble_eq_true rfl, Nat.le_of_ble_eq_true rfl⟩) hP hD (pmB (bS cy a v) 1 _ (cD cy (a 1) v.2.1) rfl).1 hS hA (fun H locs hP hD hS => ?_)
    have hP : va_P D vwCl (cS cy a v) H := vP_perm hP (pmB (bS cy a v) 1 _ (cD cy (a 1) v.2.1) rfl).2
    have hD : va_D A (cS cy a v) := vD_perm hD (pmB (bS cy a v) 1 _ (cD cy (a 1) v.2.1) rfl).2
    have hr9 : (r_X0_noteFor v.2.1 pl ((v.1 0) 0)) = (r_X3_noteFor v (0 : Int32) pl) := by unfold r_X3_noteFor; simp only [if_pos hd0, if_true, if_false]
    exact hret _ H locs _ ls hr9 hP hD hS dX3_noteFor_16
  · subst hd
    have hd1 : ¬ (1 : Int32) = 0 := by decide
    have hl : lv_has ls 3 [(0, .ref (a 0 0)), (1, .int (1 : Int32)), (2, .int pl)] := hl
    refine lv_aload_n hx hb dX3_noteFor_0 rfl (lv_at hl 0 rfl) ?_
    refine va_get (D := D) (ci := 2) (v := .ref ((a 0) 2)) (C := RX3) (T := TX3) (N := 11) hx hb hts inX3_noteFor_X3 hown hK hP 0 rfl rfl 1 (by decide) (hts _ (List.mem_of_getElem? (i := 1) rfl)) (fun _ h9 => h9) rfl dX3_noteFor_1 ?_
    refine lv_iload_n hx hb dX3_noteFor_4 rfl (lv_at hl 1 rfl) ?_
    refine x_aldq (v := .ref ((a 2) 0)) hx hb hK hP 2 2 rfl rfl (vp_c (by decide)) rfl dX3_noteFor_5 ?_
    refine lv_iload_n hx hb dX3_noteFor_6 rfl (lv_at hl 2 rfl) ?_
    refine lv_aload_n hx hb dX3_noteFor_7 rfl (lv_at hl 0 rfl) ?_
    refine va_get (D := D) (ci := 2) (v := .ref ((a 0) 1)) (C := RX3) (T := TX3) (N := 11) hx hb hts inX3_noteFor_X3 hown hK hP 0 rfl rfl 0 (by decide) (hts _ (List.mem_of_getElem? (i := 2) rfl)) (fun _ h9 => h9) rfl dX3_noteFor_8 ?_
    refine lv_iconst (v := 0) hx hb dX3_noteFor_11 (by decide) ?_
    refine x_iald (f := (v.1 0)) (j := 0) hx hb hK hP 1 0 rfl rfl rfl (vp_c (by decide)) dX3_noteFor_12 ?_
    refine cl_i (va_runV (As := [.int pl, .int ((v.1 0) 0)]) (rest := []) ⟨hx, hb, hml, hown, hts⟩ (c_X0_noteFor l D cy (a 2) v.2.2 pl ((v.1 0) 0) H.size hpl) (cwV 2 hts gX3_noteFor_X0_noteFor rfl rfl rfl (by decide +kernel) ⟨Nat.le_of_ble_eq_true rfl, Nat.le_of_ble_eq_true rfl⟩) ⟨blU, va_recv hK hP (ci := 0) (q0 := 14) rfl rfl, preU hP hD (pmB (bS cy a v) 2 _ (cD cy (a 2) v.2.2) rfl).1 hK hE hS hA⟩ rfl rfl hl.1 rfl (lv_room (Nat.le_of_ble_eq_true rfl)) dX3_noteFor_13 ⟨Nat.le_of_ble_eq_true rfl, Nat.le_of_ble_eq_true rfl⟩) hP hD (pmB (bS cy a v) 2 _ (cD cy (a 2) v.2.2) rfl).1 hS hA (fun H locs hP hD hS => ?_)
    have hP : va_P D vwCl (cS cy a v) H := vP_perm hP (pmB (bS cy a v) 2 _ (cD cy (a 2) v.2.2) rfl).2
    have hD : va_D A (cS cy a v) := vD_perm hD (pmB (bS cy a v) 2 _ (cD cy (a 2) v.2.2) rfl).2
    have hr9 : (r_X0_noteFor v.2.2 pl ((v.1 0) 0)) = (r_X3_noteFor v (1 : Int32) pl) := by unfold r_X3_noteFor; simp only [if_neg hd1, if_true, if_false]
    exact hret _ H locs _ ls hr9 hP hD hS dX3_noteFor_16

def r_X3_deskSays (v : SV) (d : Int32) (pl : Int32) : Int32 := (if d = 0 then (if ((v.2.1 1) (r_X0_noteFor v.2.1 pl ((v.1 0) 0)).toNatClampNeg) < ((v.1 0) 1) then (0 : Int32) else (1 : Int32)) else (if ((v.2.2 1) (r_X0_noteFor v.2.2 pl ((v.1 0) 0)).toNatClampNeg) < ((v.1 0) 1) then (0 : Int32) else (1 : Int32)))
abbrev rX3_deskSays : Room := { frames := 2, cells := 0, slots := 0, locals := 45 }
theorem inX3_deskSays_X0 : ∀ w ∈ u_ws RX0 TX0 8, w ∈ wsX3_deskSays := by decide +kernel
theorem inX3_deskSays_X3 : ∀ w ∈ u_ws RX3 TX3 11, w ∈ wsX3_deskSays := by decide +kernel
theorem zn_X3_deskSays (v : SV) (d : Int32) (pl : Int32) : narrow .boolean (.int (r_X3_deskSays v d pl)) = .int (r_X3_deskSays v d pl) := by
  unfold r_X3_deskSays
  repeat' split
  all_goals rfl
set_option maxHeartbeats 4000000 in
set_option maxRecDepth 100000 in
theorem c_X3_deskSays (l : Launch) (D : va_G) (cy : Nat → ClassId) (a : Nat → Nat → Nat) (v : SV) (d : Int32) (pl : Int32) (sz : Nat) (hd : d = 0 ∨ d = 1) (hpl : vp_in pl 26) (hsz2 : szok (v.1 0 0)) : CI l yX3_deskSays wsX3_deskSays rX3_deskSays D cy [.ref (a 0 0), .int d, .int pl] (cS cy a v) sz (r_X3_deskSays v d pl) (cS cy a v) 0 0 := by
  refine st_i (ty := .boolean) (cc := cX3_deskSays) (maxL := 4) (by decide) rfl (zn_X3_deskSays v d pl) (Nat.le_of_ble_eq_true rfl) ?_
  intro pp e s m below meth c A Q ls hx hb hts hown hml hlocks hsz hP hK hD hE hA hl hret
  subst hsz
  have hown : s.vm.findClass RX3 = some m.cls := hown
  have hl : lv_has ls 4 [(0, .ref (a 0 0)), (1, .int d), (2, .int pl)] := hl
  obtain ⟨H, hH⟩ : ∃ H, H = s.heap := ⟨_, rfl⟩
  rw [← hH] at hP ⊢
  have hS : va_S A s.heap H [] := by rw [hH]; exact va_S.rf
  obtain ⟨locs, hlo⟩ : ∃ locs : List Loc, locs = [] := ⟨_, rfl⟩
  rw [← hlo] at hS ⊢
  rcases hd with hd | hd
  · subst hd
    have hd0 : (0 : Int32) = 0 := by decide
    have hl : lv_has ls 4 [(0, .ref (a 0 0)), (1, .int (0 : Int32)), (2, .int pl)] := hl
    refine lv_aload_n hx hb dX3_deskSays_0 rfl (lv_at hl 0 rfl) ?_
    refine va_get (D := D) (ci := 2) (v := .ref ((a 0) 2)) (C := RX3) (T := TX3) (N := 11) hx hb hts inX3_deskSays_X3 hown hK hP 0 rfl rfl 1 (by decide) (hts _ (List.mem_of_getElem? (i := 1) rfl)) (fun _ h9 => h9) rfl dX3_deskSays_1 ?_
    refine lv_iload_n hx hb dX3_deskSays_4 rfl (lv_at hl 1 rfl) ?_
    refine x_aldq (v := .ref ((a 1) 0)) hx hb hK hP 2 2 rfl rfl (vp_c (by decide)) rfl dX3_deskSays_5 ?_
    refine lv_astore_n (lv' := [(3, .ref ((a 1) 0)), (0, .ref (a 0 0)), (1, .int (0 : Int32)), (2, .int pl)]) hx hb dX3_deskSays_6 rfl hl (by decide) rfl (fun ls hl => ?_)
    refine lv_aload_n hx hb dX3_deskSays_7 rfl (lv_at hl 0 rfl) ?_
    refine va_get (D := D) (ci := 0) (v := .ref ((a 1) 2)) (C := RX0) (T := TX0) (N := 8) hx hb hts inX3_deskSays_X0 hown hK hP 7 rfl rfl 1 (by decide) (hts _ (List.mem_of_getElem? (i := 2) rfl)) (fun _ h9 => h9) rfl dX3_deskSays_8 ?_
    refine lv_aload_n hx hb dX3_deskSays_11 rfl (lv_at hl 0 rfl) ?_
    refine lv_iload_n hx hb dX3_deskSays_12 rfl (lv_at hl 3 rfl) ?_
    refine lv_aload_n hx hb dX3_deskSays_13 rfl (lv_at hl 1 rfl) ?_
    refine va_get (D := D) (ci := 2) (v := .ref ((a 0) 1)) (C := RX3) (T := TX3) (N := 11) hx hb hts inX3_deskSays_X3 hown hK hP 0 rfl rfl 0 (by decide) (hts _ (List.mem_of_getElem? (i := 3) rfl)) (fun _ h9 => h9) rfl dX3_deskSays_14 ?_
    refine lv_iconst (v := 0) hx hb dX3_deskSays_17 (by decide) ?_
    refine x_iald (f := (v.1 0)) (j := 0) hx hb hK hP 1 0 rfl rfl rfl (vp_c (by decide)) dX3_deskSays_18 ?_
    refine cl_i (va_runV (As := [.int pl, .int ((v.1 0) 0)]) (rest := [.ref ((a 1) 2)]) ⟨hx, hb, hml, hown, hts⟩ (c_X0_noteFor l D cy (a 1) v.2.1 pl ((v.1 0) 0) H.size hpl) (cwV 2 hts gX3_deskSays_X0_noteFor rfl rfl rfl (by decide +kernel) ⟨Nat.le_of_ble_eq_true rfl, Nat.le_of_ble_eq_true rfl⟩) ⟨blU, va_recv hK hP (ci := 0) (q0 := 7) rfl rfl, preU hP hD (pmB (bS cy a v) 1 _ (cD cy (a 1) v.2.1) rfl).1 hK hE hS hA⟩ rfl rfl hl.1 rfl (lv_room (Nat.le_of_ble_eq_true rfl)) dX3_deskSays_19 ⟨Nat.le_of_ble_eq_true rfl, Nat.le_of_ble_eq_true rfl⟩) hP hD (pmB (bS cy a v) 1 _ (cD cy (a 1) v.2.1) rfl).1 hS hA (fun H locs hP hD hS => ?_)
    have hP : va_P D vwCl (cS cy a v) H := vP_perm hP (pmB (bS cy a v) 1 _ (cD cy (a 1) v.2.1) rfl).2
    have hD : va_D A (cS cy a v) := vD_perm hD (pmB (bS cy a v) 1 _ (cD cy (a 1) v.2.1) rfl).2
    refine x_iald (f := (v.2.1 1)) (j := (r_X0_noteFor v.2.1 pl ((v.1 0) 0)).toNatClampNeg) hx hb hK hP 9 0 rfl rfl rfl (note_in _ _ _ hsz2) dX3_deskSays_22 ?_
    refine lv_aload_n hx hb dX3_deskSays_23 rfl (lv_at hl 1 rfl) ?_
    refine va_get (D := D) (ci := 2) (v := .ref ((a 0) 1)) (C := RX3) (T := TX3) (N := 11) hx hb hts inX3_deskSays_X3 hown hK hP 0 rfl rfl 0 (by decide) (hts _ (List.mem_of_getElem? (i := 3) rfl)) (fun _ h9 => h9) rfl dX3_deskSays_24 ?_
    refine lv_iconst (v := 1) hx hb dX3_deskSays_27 (by decide) ?_
    refine x_iald (f := (v.1 0)) (j := 1) hx hb hK hP 1 0 rfl rfl rfl (vp_c (by decide)) dX3_deskSays_28 ?_
    have J37_2 : ∀ (z_2 : Int32) (hz_2 : z_2 = (if ((v.2.1 1) (r_X0_noteFor v.2.1 pl ((v.1 0) 0)).toNatClampNeg) < ((v.1 0) 1) then (0 : Int32) else (1 : Int32))) (H : Heap) (locs : List Loc), va_P D vwCl (cS cy a v) H → va_D A (cS cy a v) → va_S A s.heap H locs → ∀ ls : Array Slot, lv_has ls 4 [(0, .ref (a 0 0)), (1, .int (0 : Int32)), (2, .int pl), (3, .ref ((a 1) 0))] → W pp l e rX3_deskSays s m ([.ref (a 0 0), .int (0 : Int32), .int pl] : List Value).toArray below meth c H locs 0 0 Q (F0 m 37 ls [.int z_2]) := by
      intro z_2 hz_2 H locs hP hD hS ls hl
      subst hz_2
      have hr9 : (if ((v.2.1 1) (r_X0_noteFor v.2.1 pl ((v.1 0) 0)).toNatClampNeg) < ((v.1 0) 1) then (0 : Int32) else (1 : Int32)) = (r_X3_deskSays v (0 : Int32) pl) := by unfold r_X3_deskSays; simp only [if_pos hd0, if_true, if_false]
      exact hret _ H locs _ ls hr9 hP hD hS dX3_deskSays_37
    refine lv_icmp_lt (tgt := 36) hx hb dX3_deskSays_29 (by decide) (fun c_1 => ?_) (fun c_1 => ?_)
    · refine lv_iconst (v := 0) hx hb dX3_deskSays_36 (by decide) ?_
      exact J37_2 (0 : Int32) (by simp only [if_pos c_1, if_true, if_false]) H locs hP hD hS ls (lv_sub hl [1, 2, 3, 0] rfl)
    · refine lv_iconst (v := 1) hx hb dX3_deskSays_32 (by decide) ?_
      refine lv_goto (tgt := 37) hx hb dX3_deskSays_33 (by decide) ?_
      exact J37_2 (1 : Int32) (by simp only [if_neg c_1, if_true, if_false]) H locs hP hD hS ls (lv_sub hl [1, 2, 3, 0] rfl)
  · subst hd
    have hd1 : ¬ (1 : Int32) = 0 := by decide
    have hl : lv_has ls 4 [(0, .ref (a 0 0)), (1, .int (1 : Int32)), (2, .int pl)] := hl
    refine lv_aload_n hx hb dX3_deskSays_0 rfl (lv_at hl 0 rfl) ?_
    refine va_get (D := D) (ci := 2) (v := .ref ((a 0) 2)) (C := RX3) (T := TX3) (N := 11) hx hb hts inX3_deskSays_X3 hown hK hP 0 rfl rfl 1 (by decide) (hts _ (List.mem_of_getElem? (i := 1) rfl)) (fun _ h9 => h9) rfl dX3_deskSays_1 ?_
    refine lv_iload_n hx hb dX3_deskSays_4 rfl (lv_at hl 1 rfl) ?_
    refine x_aldq (v := .ref ((a 2) 0)) hx hb hK hP 2 2 rfl rfl (vp_c (by decide)) rfl dX3_deskSays_5 ?_
    refine lv_astore_n (lv' := [(3, .ref ((a 2) 0)), (0, .ref (a 0 0)), (1, .int (1 : Int32)), (2, .int pl)]) hx hb dX3_deskSays_6 rfl hl (by decide) rfl (fun ls hl => ?_)
    refine lv_aload_n hx hb dX3_deskSays_7 rfl (lv_at hl 0 rfl) ?_
    refine va_get (D := D) (ci := 0) (v := .ref ((a 2) 2)) (C := RX0) (T := TX0) (N := 8) hx hb hts inX3_deskSays_X0 hown hK hP 14 rfl rfl 1 (by decide) (hts _ (List.mem_of_getElem? (i := 2) rfl)) (fun _ h9 => h9) rfl dX3_deskSays_8 ?_
    refine lv_aload_n hx hb dX3_deskSays_11 rfl (lv_at hl 0 rfl) ?_
    refine lv_iload_n hx hb dX3_deskSays_12 rfl (lv_at hl 3 rfl) ?_
    refine lv_aload_n hx hb dX3_deskSays_13 rfl (lv_at hl 1 rfl) ?_
    refine va_get (D := D) (ci := 2) (v := .ref ((a 0) 1)) (C := RX3) (T := TX3) (N := 11) hx hb hts inX3_deskSays_X3 hown hK hP 0 rfl rfl 0 (by decide) (hts _ (List.mem_of_getElem? (i := 3) rfl)) (fun _ h9 => h9) rfl dX3_deskSays_14 ?_
    refine lv_iconst (v := 0) hx hb dX3_deskSays_17 (by decide) ?_
    refine x_iald (f := (v.1 0)) (j := 0) hx hb hK hP 1 0 rfl rfl rfl (vp_c (by decide)) dX3_deskSays_18 ?_
    refine cl_i (va_runV (As := [.int pl, .int ((v.1 0) 0)]) (rest := [.ref ((a 2) 2)]) ⟨hx, hb, hml, hown, hts⟩ (c_X0_noteFor l D cy (a 2) v.2.2 pl ((v.1 0) 0) H.size hpl) (cwV 2 hts gX3_deskSays_X0_noteFor rfl rfl rfl (by decide +kernel) ⟨Nat.le_of_ble_eq_true rfl, Nat.le_of_ble_eq_true rfl⟩) ⟨blU, va_recv hK hP (ci := 0) (q0 := 14) rfl rfl, preU hP hD (pmB (bS cy a v) 2 _ (cD cy (a 2) v.2.2) rfl).1 hK hE hS hA⟩ rfl rfl hl.1 rfl (lv_room (Nat.le_of_ble_eq_true rfl)) dX3_deskSays_19 ⟨Nat.le_of_ble_eq_true rfl, Nat.le_of_ble_eq_true rfl⟩) hP hD (pmB (bS cy a v) 2 _ (cD cy (a 2) v.2.2) rfl).1 hS hA (fun H locs hP hD hS => ?_)
    have hP : va_P D vwCl (cS cy a v) H := vP_perm hP (pmB (bS cy a v) 2 _ (cD cy (a 2) v.2.2) rfl).2
    have hD : va_D A (cS cy a v) := vD_perm hD (pmB (bS cy a v) 2 _ (cD cy (a 2) v.2.2) rfl).2
    refine x_iald (f := (v.2.2 1)) (j := (r_X0_noteFor v.2.2 pl ((v.1 0) 0)).toNatClampNeg) hx hb hK hP 16 0 rfl rfl rfl (note_in _ _ _ hsz2) dX3_deskSays_22 ?_
    refine lv_aload_n hx hb dX3_deskSays_23 rfl (lv_at hl 1 rfl) ?_
    refine va_get (D := D) (ci := 2) (v := .ref ((a 0) 1)) (C := RX3) (T := TX3) (N := 11) hx hb hts inX3_deskSays_X3 hown hK hP 0 rfl rfl 0 (by decide) (hts _ (List.mem_of_getElem? (i := 3) rfl)) (fun _ h9 => h9) rfl dX3_deskSays_24 ?_
    refine lv_iconst (v := 1) hx hb dX3_deskSays_27 (by decide) ?_
    refine x_iald (f := (v.1 0)) (j := 1) hx hb hK hP 1 0 rfl rfl rfl (vp_c (by decide)) dX3_deskSays_28 ?_
    have J37_5 : ∀ (z_5 : Int32) (hz_5 : z_5 = (if ((v.2.2 1) (r_X0_noteFor v.2.2 pl ((v.1 0) 0)).toNatClampNeg) < ((v.1 0) 1) then (0 : Int32) else (1 : Int32))) (H : Heap) (locs : List Loc), va_P D vwCl (cS cy a v) H → va_D A (cS cy a v) → va_S A s.heap H locs → ∀ ls : Array Slot, lv_has ls 4 [(0, .ref (a 0 0)), (1, .int (1 : Int32)), (2, .int pl), (3, .ref ((a 2) 0))] → W pp l e rX3_deskSays s m ([.ref (a 0 0), .int (1 : Int32), .int pl] : List Value).toArray below meth c H locs 0 0 Q (F0 m 37 ls [.int z_5]) := by
      intro z_5 hz_5 H locs hP hD hS ls hl
      subst hz_5
      have hr9 : (if ((v.2.2 1) (r_X0_noteFor v.2.2 pl ((v.1 0) 0)).toNatClampNeg) < ((v.1 0) 1) then (0 : Int32) else (1 : Int32)) = (r_X3_deskSays v (1 : Int32) pl) := by unfold r_X3_deskSays; simp only [if_neg hd1, if_true, if_false]
      exact hret _ H locs _ ls hr9 hP hD hS dX3_deskSays_37
    refine lv_icmp_lt (tgt := 36) hx hb dX3_deskSays_29 (by decide) (fun c_4 => ?_) (fun c_4 => ?_)
    · refine lv_iconst (v := 0) hx hb dX3_deskSays_36 (by decide) ?_
      exact J37_5 (0 : Int32) (by simp only [if_pos c_4, if_true, if_false]) H locs hP hD hS ls (lv_sub hl [1, 2, 3, 0] rfl)
    · refine lv_iconst (v := 1) hx hb dX3_deskSays_32 (by decide) ?_
      refine lv_goto (tgt := 37) hx hb dX3_deskSays_33 (by decide) ?_
      exact J37_5 (1 : Int32) (by simp only [if_neg c_4, if_true, if_false]) H locs hP hD hS ls (lv_sub hl [1, 2, 3, 0] rfl)

def r_X3_guessFor (v : SV) (pl : Int32) : Int32 := (r_X3_deskSays v (if (2 : Int32) ≤ ((v.1 1) pl.toNatClampNeg) then (1 : Int32) else (0 : Int32)) pl)
abbrev rX3_guessFor : Room := { frames := 3, cells := 0, slots := 0, locals := 68 }
theorem inX3_guessFor_X3 : ∀ w ∈ u_ws RX3 TX3 11, w ∈ wsX3_guessFor := by decide +kernel
set_option maxHeartbeats 4000000 in
set_option maxRecDepth 100000 in
theorem c_X3_guessFor (l : Launch) (D : va_G) (cy : Nat → ClassId) (a : Nat → Nat → Nat) (v : SV) (pl : Int32) (sz : Nat) (hpl : vp_in pl 26) (hsz2 : szok (v.1 0 0)) : CI l yX3_guessFor wsX3_guessFor rX3_guessFor D cy [.ref (a 0 0), .int pl] (cS cy a v) sz (r_X3_guessFor v pl) (cS cy a v) 0 0 := by
  refine st_i (ty := .boolean) (cc := cX3_guessFor) (maxL := 2) (by decide) rfl (zn_X3_deskSays _ _ _) (Nat.le_of_ble_eq_true rfl) ?_
  intro pp e s m below meth c A Q ls hx hb hts hown hml hlocks hsz hP hK hD hE hA hl hret
  subst hsz
  have hown : s.vm.findClass RX3 = some m.cls := hown
  have hl : lv_has ls 2 [(0, .ref (a 0 0)), (1, .int pl)] := hl
  obtain ⟨H, hH⟩ : ∃ H, H = s.heap := ⟨_, rfl⟩
  rw [← hH] at hP ⊢
  have hS : va_S A s.heap H [] := by rw [hH]; exact va_S.rf
  obtain ⟨locs, hlo⟩ : ∃ locs : List Loc, locs = [] := ⟨_, rfl⟩
  rw [← hlo] at hS ⊢
  refine lv_aload_n hx hb dX3_guessFor_0 rfl (lv_at hl 0 rfl) ?_
  refine lv_aload_n hx hb dX3_guessFor_1 rfl (lv_at hl 0 rfl) ?_
  refine va_get (D := D) (ci := 2) (v := .ref ((a 0) 3)) (C := RX3) (T := TX3) (N := 11) hx hb hts inX3_guessFor_X3 hown hK hP 0 rfl rfl 2 (by decide) (hts _ (List.mem_of_getElem? (i := 1) rfl)) (fun _ h9 => h9) rfl dX3_guessFor_2 ?_
  refine lv_iload_n hx hb dX3_guessFor_5 rfl (lv_at hl 1 rfl) ?_
  refine x_iald (f := (v.1 1)) (j := pl.toNatClampNeg) hx hb hK hP 3 0 rfl rfl rfl hpl dX3_guessFor_6 ?_
  refine lv_iconst (v := 2) hx hb dX3_guessFor_7 (by decide) ?_
  have J16_2 : ∀ (z_2 : Int32) (hz_2 : z_2 = (if (2 : Int32) ≤ ((v.1 1) pl.toNatClampNeg) then (1 : Int32) else (0 : Int32))) (H : Heap) (locs : List Loc), va_P D vwCl (cS cy a v) H → va_D A (cS cy a v) → va_S A s.heap H locs → ∀ ls : Array Slot, lv_has ls 2 [(0, .ref (a 0 0)), (1, .int pl)] → W pp l e rX3_guessFor s m ([.ref (a 0 0), .int pl] : List Value).toArray below meth c H locs 0 0 Q (F0 m 16 ls [.int z_2, .ref (a 0 0)]) := by
    intro z_2 hz_2 H locs hP hD hS ls hl
    subst hz_2
    refine lv_iload_n hx hb dX3_guessFor_16 rfl (lv_at hl 1 rfl) ?_
    refine cl_i (va_runV (As := [.int (if (2 : Int32) ≤ ((v.1 1) pl.toNatClampNeg) then (1 : Int32) else (0 : Int32)), .int pl]) (rest := []) ⟨hx, hb, hml, hown, hts⟩ (c_X3_deskSays l D cy a v (if (2 : Int32) ≤ ((v.1 1) pl.toNatClampNeg) then (1 : Int32) else (0 : Int32)) pl H.size (by split <;> simp) hpl hsz2) (cwV 2 hts gX3_guessFor_X3_deskSays rfl rfl rfl (by decide +kernel) ⟨Nat.le_of_ble_eq_true rfl, Nat.le_of_ble_eq_true rfl⟩) ⟨blU, va_recv hK hP (ci := 2) (q0 := 0) rfl rfl, preU hP hD (pmI _) hK hE hS hA⟩ rfl rfl hl.1 rfl (lv_room (Nat.le_of_ble_eq_true rfl)) dX3_guessFor_17 ⟨Nat.le_of_ble_eq_true rfl, Nat.le_of_ble_eq_true rfl⟩) hP hD (pmI _) hS hA (fun H locs hP hD hS => ?_)
    have hP : va_P D vwCl (cS cy a v) H := vP_perm hP (pmI _).symm
    have hD : va_D A (cS cy a v) := vD_perm hD (pmI _).symm
    have hr9 : (r_X3_deskSays v (if (2 : Int32) ≤ ((v.1 1) pl.toNatClampNeg) then (1 : Int32) else (0 : Int32)) pl) = (r_X3_guessFor v pl) := by rfl
    exact hret _ H locs _ ls hr9 hP hD hS dX3_guessFor_20
  refine lv_icmp_ge (tgt := 15) hx hb dX3_guessFor_8 (by decide) (fun c_1 => ?_) (fun c_1 => ?_)
  · refine lv_iconst (v := 1) hx hb dX3_guessFor_15 (by decide) ?_
    exact J16_2 (1 : Int32) (by simp only [if_pos c_1, if_true, if_false]) H locs hP hD hS ls (lv_sub hl [0, 1] rfl)
  · refine lv_iconst (v := 0) hx hb dX3_guessFor_11 (by decide) ?_
    refine lv_goto (tgt := 16) hx hb dX3_guessFor_12 (by decide) ?_
    exact J16_2 (0 : Int32) (by simp only [if_neg c_1, if_true, if_false]) H locs hP hD hS ls (lv_sub hl [0, 1] rfl)

def w_X3_changeDesk (v : SV) (d : Int32) (what : Int32) (val2 : Int32) : SV := (if d = 0 then (w_X3_beginAnew (v.1, (mkD (upd (v.2.1 0) what.toNatClampNeg val2) (v.2.1 1) (v.2.1 2) (v.2.1 3) (v.2.1 4) (v.2.1 5) (v.2.1 6 0) (v.2.1 7 0)), v.2.2)) else (w_X3_beginAnew (v.1, v.2.1, (mkD (upd (v.2.2 0) what.toNatClampNeg val2) (v.2.2 1) (v.2.2 2) (v.2.2 3) (v.2.2 4) (v.2.2 5) (v.2.2 6 0) (v.2.2 7 0)))))
abbrev rX3_changeDesk : Room := { frames := 3, cells := 0, slots := 0, locals := 65 }
theorem inX3_changeDesk_X0 : ∀ w ∈ u_ws RX0 TX0 8, w ∈ wsX3_changeDesk := by decide +kernel
theorem inX3_changeDesk_X3 : ∀ w ∈ u_ws RX3 TX3 11, w ∈ wsX3_changeDesk := by decide +kernel
set_option maxHeartbeats 4000000 in
set_option maxRecDepth 100000 in
theorem c_X3_changeDesk (l : Launch) (D : va_G) (cy : Nat → ClassId) (a : Nat → Nat → Nat) (v : SV) (d : Int32) (what : Int32) (val2 : Int32) (sz : Nat) (hd : d = 0 ∨ d = 1) (hw : vp_in what 3) : CN l yX3_changeDesk wsX3_changeDesk rX3_changeDesk D cy [.ref (a 0 0), .int d, .int what, .int val2] (cS cy a v) sz (cS cy a (w_X3_changeDesk v d what val2)) 0 0 := by
  refine st_n (cc := cX3_changeDesk) (maxL := 4) (by decide) rfl (Nat.le_of_ble_eq_true rfl) ?_
  intro pp e s m below meth c A Q ls hx hb hts hown hml hlocks hsz hP hK hD hE hA hl hret
  subst hsz
  have hown : s.vm.findClass RX3 = some m.cls := hown
  have hl : lv_has ls 4 [(0, .ref (a 0 0)), (1, .int d), (2, .int what), (3, .int val2)] := hl
  obtain ⟨H, hH⟩ : ∃ H, H = s.heap := ⟨_, rfl⟩
  rw [← hH] at hP ⊢
  have hS : va_S A s.heap H [] := by rw [hH]; exact va_S.rf
  obtain ⟨locs, hlo⟩ : ∃ locs : List Loc, locs = [] := ⟨_, rfl⟩
  rw [← hlo] at hS ⊢
  rcases hd with hd | hd
  · subst hd
    have hd0 : (0 : Int32) = 0 := by decide
    have hl : lv_has ls 4 [(0, .ref (a 0 0)), (1, .int (0 : Int32)), (2, .int what), (3, .int val2)] := hl
    refine lv_aload_n hx hb dX3_changeDesk_0 rfl (lv_at hl 0 rfl) ?_
    refine va_get (D := D) (ci := 2) (v := .ref ((a 0) 2)) (C := RX3) (T := TX3) (N := 11) hx hb hts inX3_changeDesk_X3 hown hK hP 0 rfl rfl 1 (by decide) (hts _ (List.mem_of_getElem? (i := 1) rfl)) (fun _ h9 => h9) rfl dX3_changeDesk_1 ?_
    refine lv_iload_n hx hb dX3_changeDesk_4 rfl (lv_at hl 1 rfl) ?_
    refine x_aldq (v := .ref ((a 1) 0)) hx hb hK hP 2 2 rfl rfl (vp_c (by decide)) rfl dX3_changeDesk_5 ?_
    refine va_get (D := D) (ci := 0) (v := .ref ((a 1) 1)) (C := RX0) (T := TX0) (N := 8) hx hb hts inX3_changeDesk_X0 hown hK hP 7 rfl rfl 0 (by decide) (hts _ (List.mem_of_getElem? (i := 2) rfl)) (fun _ h9 => h9) rfl dX3_changeDesk_6 ?_
    refine lv_iload_n hx hb dX3_changeDesk_9 rfl (lv_at hl 2 rfl) ?_
    refine lv_iload_n hx hb dX3_changeDesk_10 rfl (lv_at hl 3 rfl) ?_
    refine x_iast (j := what.toNatClampNeg) hx hb hK hP hD hS 8 0 rfl rfl rfl hw dX3_changeDesk_11 (fun H locs hP hD hS => ?_)
    have hP : va_P D vwCl (cS cy a (v.1, (mkD (upd (v.2.1 0) what.toNatClampNeg val2) (v.2.1 1) (v.2.1 2) (v.2.1 3) (v.2.1 4) (v.2.1 5) (v.2.1 6 0) (v.2.1 7 0)), v.2.2)) H := hP
    have hD : va_D A (cS cy a (v.1, (mkD (upd (v.2.1 0) what.toNatClampNeg val2) (v.2.1 1) (v.2.1 2) (v.2.1 3) (v.2.1 4) (v.2.1 5) (v.2.1 6 0) (v.2.1 7 0)), v.2.2)) := hD
    refine lv_aload_n hx hb dX3_changeDesk_12 rfl (lv_at hl 0 rfl) ?_
    refine cl_n (va_runV (As := []) (rest := []) ⟨hx, hb, hml, hown, hts⟩ (c_X3_beginAnew l D cy a (v.1, (mkD (upd (v.2.1 0) what.toNatClampNeg val2) (v.2.1 1) (v.2.1 2) (v.2.1 3) (v.2.1 4) (v.2.1 5) (v.2.1 6 0) (v.2.1 7 0)), v.2.2) H.size) (cwV 0 hts gX3_changeDesk_X3_beginAnew rfl rfl rfl (by decide +kernel) ⟨Nat.le_of_ble_eq_true rfl, Nat.le_of_ble_eq_true rfl⟩) ⟨blU, va_recv hK hP (ci := 2) (q0 := 0) rfl rfl, preU hP hD (pmI _) hK hE hS hA⟩ rfl rfl hl.1 rfl (lv_room (Nat.le_of_ble_eq_true rfl)) dX3_changeDesk_13 ⟨Nat.le_of_ble_eq_true rfl, Nat.le_of_ble_eq_true rfl⟩) hP hD (pmI _) hS hA (fun H locs hP hD hS => ?_)
    have hP : va_P D vwCl (cS cy a (w_X3_beginAnew (v.1, (mkD (upd (v.2.1 0) what.toNatClampNeg val2) (v.2.1 1) (v.2.1 2) (v.2.1 3) (v.2.1 4) (v.2.1 5) (v.2.1 6 0) (v.2.1 7 0)), v.2.2))) H := vP_perm hP (pmI _).symm
    have hD : va_D A (cS cy a (w_X3_beginAnew (v.1, (mkD (upd (v.2.1 0) what.toNatClampNeg val2) (v.2.1 1) (v.2.1 2) (v.2.1 3) (v.2.1 4) (v.2.1 5) (v.2.1 6 0) (v.2.1 7 0)), v.2.2))) := vD_perm hD (pmI _).symm
    have hw9 : (w_X3_changeDesk v (0 : Int32) what val2) = (w_X3_beginAnew (v.1, (mkD (upd (v.2.1 0) what.toNatClampNeg val2) (v.2.1 1) (v.2.1 2) (v.2.1 3) (v.2.1 4) (v.2.1 5) (v.2.1 6 0) (v.2.1 7 0)), v.2.2)) := by unfold w_X3_changeDesk; simp only [if_pos hd0, if_true, if_false]
    exact hret H locs _ ls (by rw [hw9]; exact hP) (by rw [hw9]; exact hD) hS dX3_changeDesk_16
  · subst hd
    have hd1 : ¬ (1 : Int32) = 0 := by decide
    have hl : lv_has ls 4 [(0, .ref (a 0 0)), (1, .int (1 : Int32)), (2, .int what), (3, .int val2)] := hl
    refine lv_aload_n hx hb dX3_changeDesk_0 rfl (lv_at hl 0 rfl) ?_
    refine va_get (D := D) (ci := 2) (v := .ref ((a 0) 2)) (C := RX3) (T := TX3) (N := 11) hx hb hts inX3_changeDesk_X3 hown hK hP 0 rfl rfl 1 (by decide) (hts _ (List.mem_of_getElem? (i := 1) rfl)) (fun _ h9 => h9) rfl dX3_changeDesk_1 ?_
    refine lv_iload_n hx hb dX3_changeDesk_4 rfl (lv_at hl 1 rfl) ?_
    refine x_aldq (v := .ref ((a 2) 0)) hx hb hK hP 2 2 rfl rfl (vp_c (by decide)) rfl dX3_changeDesk_5 ?_
    refine va_get (D := D) (ci := 0) (v := .ref ((a 2) 1)) (C := RX0) (T := TX0) (N := 8) hx hb hts inX3_changeDesk_X0 hown hK hP 14 rfl rfl 0 (by decide) (hts _ (List.mem_of_getElem? (i := 2) rfl)) (fun _ h9 => h9) rfl dX3_changeDesk_6 ?_
    refine lv_iload_n hx hb dX3_changeDesk_9 rfl (lv_at hl 2 rfl) ?_
    refine lv_iload_n hx hb dX3_changeDesk_10 rfl (lv_at hl 3 rfl) ?_
    refine x_iast (j := what.toNatClampNeg) hx hb hK hP hD hS 15 0 rfl rfl rfl hw dX3_changeDesk_11 (fun H locs hP hD hS => ?_)
    have hP : va_P D vwCl (cS cy a (v.1, v.2.1, (mkD (upd (v.2.2 0) what.toNatClampNeg val2) (v.2.2 1) (v.2.2 2) (v.2.2 3) (v.2.2 4) (v.2.2 5) (v.2.2 6 0) (v.2.2 7 0)))) H := hP
    have hD : va_D A (cS cy a (v.1, v.2.1, (mkD (upd (v.2.2 0) what.toNatClampNeg val2) (v.2.2 1) (v.2.2 2) (v.2.2 3) (v.2.2 4) (v.2.2 5) (v.2.2 6 0) (v.2.2 7 0)))) := hD
    refine lv_aload_n hx hb dX3_changeDesk_12 rfl (lv_at hl 0 rfl) ?_
    refine cl_n (va_runV (As := []) (rest := []) ⟨hx, hb, hml, hown, hts⟩ (c_X3_beginAnew l D cy a (v.1, v.2.1, (mkD (upd (v.2.2 0) what.toNatClampNeg val2) (v.2.2 1) (v.2.2 2) (v.2.2 3) (v.2.2 4) (v.2.2 5) (v.2.2 6 0) (v.2.2 7 0))) H.size) (cwV 0 hts gX3_changeDesk_X3_beginAnew rfl rfl rfl (by decide +kernel) ⟨Nat.le_of_ble_eq_true rfl, Nat.le_of_ble_eq_true rfl⟩) ⟨blU, va_recv hK hP (ci := 2) (q0 := 0) rfl rfl, preU hP hD (pmI _) hK hE hS hA⟩ rfl rfl hl.1 rfl (lv_room (Nat.le_of_ble_eq_true rfl)) dX3_changeDesk_13 ⟨Nat.le_of_ble_eq_true rfl, Nat.le_of_ble_eq_true rfl⟩) hP hD (pmI _) hS hA (fun H locs hP hD hS => ?_)
    have hP : va_P D vwCl (cS cy a (w_X3_beginAnew (v.1, v.2.1, (mkD (upd (v.2.2 0) what.toNatClampNeg val2) (v.2.2 1) (v.2.2 2) (v.2.2 3) (v.2.2 4) (v.2.2 5) (v.2.2 6 0) (v.2.2 7 0))))) H := vP_perm hP (pmI _).symm
    have hD : va_D A (cS cy a (w_X3_beginAnew (v.1, v.2.1, (mkD (upd (v.2.2 0) what.toNatClampNeg val2) (v.2.2 1) (v.2.2 2) (v.2.2 3) (v.2.2 4) (v.2.2 5) (v.2.2 6 0) (v.2.2 7 0))))) := vD_perm hD (pmI _).symm
    have hw9 : (w_X3_changeDesk v (1 : Int32) what val2) = (w_X3_beginAnew (v.1, v.2.1, (mkD (upd (v.2.2 0) what.toNatClampNeg val2) (v.2.2 1) (v.2.2 2) (v.2.2 3) (v.2.2 4) (v.2.2 5) (v.2.2 6 0) (v.2.2 7 0)))) := by unfold w_X3_changeDesk; simp only [if_neg hd1, if_true, if_false]
    exact hret H locs _ ls (by rw [hw9]; exact hP) (by rw [hw9]; exact hD) hS dX3_changeDesk_16

def w_X3_moveChooser (v : SV) (pl : Int32) (tl : Int32) : SV := ((mkO (v.1 0) (if tl = 0 then (upd (v.1 1) pl.toNatClampNeg (if (((v.1 1) pl.toNatClampNeg) - (1 : Int32)) < (0 : Int32) then (0 : Int32) else (((v.1 1) pl.toNatClampNeg) - (1 : Int32)))) else (upd (v.1 1) pl.toNatClampNeg (if (3 : Int32) < (((v.1 1) pl.toNatClampNeg) + (1 : Int32)) then (3 : Int32) else (((v.1 1) pl.toNatClampNeg) + (1 : Int32))))) (v.1 2) (v.1 3) (v.1 4) (v.1 5 0) (v.1 6 0) (v.1 7 0) (v.1 8 0) (v.1 9 0)), v.2.1, v.2.2)
abbrev rX3_moveChooser : Room := { frames := 1, cells := 0, slots := 0, locals := 24 }
theorem inX3_moveChooser_X3 : ∀ w ∈ u_ws RX3 TX3 11, w ∈ wsX3_moveChooser := by decide +kernel
set_option maxHeartbeats 4000000 in
set_option maxRecDepth 100000 in
theorem c_X3_moveChooser (l : Launch) (D : va_G) (cy : Nat → ClassId) (a : Nat → Nat → Nat) (v : SV) (pl : Int32) (tl : Int32) (sz : Nat) (hpl : vp_in pl 26) : CN l yX3_moveChooser wsX3_moveChooser rX3_moveChooser D cy [.ref (a 0 0), .int pl, .int tl] (cS cy a v) sz (cS cy a (w_X3_moveChooser v pl tl)) 0 0 := by
  refine st_n (cc := cX3_moveChooser) (maxL := 3) (by decide) rfl (Nat.le_of_ble_eq_true rfl) ?_
  intro pp e s m below meth c A Q ls hx hb hts hown hml hlocks hsz hP hK hD hE hA hl hret
  subst hsz
  have hown : s.vm.findClass RX3 = some m.cls := hown
  have hl : lv_has ls 3 [(0, .ref (a 0 0)), (1, .int pl), (2, .int tl)] := hl
  obtain ⟨H, hH⟩ : ∃ H, H = s.heap := ⟨_, rfl⟩
  rw [← hH] at hP ⊢
  have hS : va_S A s.heap H [] := by rw [hH]; exact va_S.rf
  obtain ⟨locs, hlo⟩ : ∃ locs : List Loc, locs = [] := ⟨_, rfl⟩
  rw [← hlo] at hS ⊢
  refine lv_iload_n hx hb dX3_moveChooser_0 rfl (lv_at hl 2 rfl) ?_
  have J43_2 : ∀ (z_2 : Nat → Int32) (hz_2 : z_2 = (if tl = 0 then (upd (v.1 1) pl.toNatClampNeg (if (((v.1 1) pl.toNatClampNeg) - (1 : Int32)) < (0 : Int32) then (0 : Int32) else (((v.1 1) pl.toNatClampNeg) - (1 : Int32)))) else (upd (v.1 1) pl.toNatClampNeg (if (3 : Int32) < (((v.1 1) pl.toNatClampNeg) + (1 : Int32)) then (3 : Int32) else (((v.1 1) pl.toNatClampNeg) + (1 : Int32)))))) (H : Heap) (locs : List Loc), va_P D vwCl (cS cy a ((mkO (v.1 0) z_2 (v.1 2) (v.1 3) (v.1 4) (v.1 5 0) (v.1 6 0) (v.1 7 0) (v.1 8 0) (v.1 9 0)), v.2.1, v.2.2)) H → va_D A (cS cy a ((mkO (v.1 0) z_2 (v.1 2) (v.1 3) (v.1 4) (v.1 5 0) (v.1 6 0) (v.1 7 0) (v.1 8 0) (v.1 9 0)), v.2.1, v.2.2)) → va_S A s.heap H locs → ∀ ls : Array Slot, lv_has ls 3 [(0, .ref (a 0 0)), (1, .int pl), (2, .int tl)] → W pp l e rX3_moveChooser s m ([.ref (a 0 0), .int pl, .int tl] : List Value).toArray below meth c H locs 0 0 Q (F0 m 43 ls []) := by
    intro z_2 hz_2 H locs hP hD hS ls hl
    subst hz_2
    have hw9 : (w_X3_moveChooser v pl tl) = ((mkO (v.1 0) (if tl = 0 then (upd (v.1 1) pl.toNatClampNeg (if (((v.1 1) pl.toNatClampNeg) - (1 : Int32)) < (0 : Int32) then (0 : Int32) else (((v.1 1) pl.toNatClampNeg) - (1 : Int32)))) else (upd (v.1 1) pl.toNatClampNeg (if (3 : Int32) < (((v.1 1) pl.toNatClampNeg) + (1 : Int32)) then (3 : Int32) else (((v.1 1) pl.toNatClampNeg) + (1 : Int32))))) (v.1 2) (v.1 3) (v.1 4) (v.1 5 0) (v.1 6 0) (v.1 7 0) (v.1 8 0) (v.1 9 0)), v.2.1, v.2.2) := by rfl
    exact hret H locs _ ls (by rw [hw9]; exact hP) (by rw [hw9]; exact hD) hS dX3_moveChooser_43
  refine lv_if_eq (tgt := 25) hx hb dX3_moveChooser_1 (by decide) (fun c_1 => ?_) (fun c_1 => ?_)
  · refine lv_aload_n hx hb dX3_moveChooser_25 rfl (lv_at hl 0 rfl) ?_
    refine va_get (D := D) (ci := 2) (v := .ref ((a 0) 3)) (C := RX3) (T := TX3) (N := 11) hx hb hts inX3_moveChooser_X3 hown hK hP 0 rfl rfl 2 (by decide) (hts _ (List.mem_of_getElem? (i := 1) rfl)) (fun _ h9 => h9) rfl dX3_moveChooser_26 ?_
    refine lv_iload_n hx hb dX3_moveChooser_29 rfl (lv_at hl 1 rfl) ?_
    refine lv_aload_n hx hb dX3_moveChooser_30 rfl (lv_at hl 0 rfl) ?_
    refine va_get (D := D) (ci := 2) (v := .ref ((a 0) 3)) (C := RX3) (T := TX3) (N := 11) hx hb hts inX3_moveChooser_X3 hown hK hP 0 rfl rfl 2 (by decide) (hts _ (List.mem_of_getElem? (i := 1) rfl)) (fun _ h9 => h9) rfl dX3_moveChooser_31 ?_
    refine lv_iload_n hx hb dX3_moveChooser_34 rfl (lv_at hl 1 rfl) ?_
    refine x_iald (f := (v.1 1)) (j := pl.toNatClampNeg) hx hb hK hP 3 0 rfl rfl rfl hpl dX3_moveChooser_35 ?_
    refine lv_iconst (v := 1) hx hb dX3_moveChooser_36 (by decide) ?_
    refine lv_isub hx hb dX3_moveChooser_37 ?_
    refine lv_iconst (v := 0) hx hb dX3_moveChooser_38 (by decide) ?_
    refine va_mmax hx hb (hml.trans hl.1.symm) hown (hts _ (List.mem_of_getElem? (i := 6) rfl)) (hts _ (List.mem_of_getElem? (i := 7) rfl)) (hts _ (List.mem_of_getElem? (i := 4) rfl)) (hts _ (List.mem_of_getElem? (i := 8) rfl)) (Nat.le_of_ble_eq_true rfl) (Nat.le_of_ble_eq_true rfl) (Nat.le_of_ble_eq_true rfl) (Nat.le_of_ble_eq_true rfl) dX3_moveChooser_39 ?_
    refine x_iast (j := pl.toNatClampNeg) hx hb hK hP hD hS 3 0 rfl rfl rfl hpl dX3_moveChooser_42 (fun H locs hP hD hS => ?_)
    have hP : va_P D vwCl (cS cy a ((mkO (v.1 0) (upd (v.1 1) pl.toNatClampNeg (if (((v.1 1) pl.toNatClampNeg) - (1 : Int32)) < (0 : Int32) then (0 : Int32) else (((v.1 1) pl.toNatClampNeg) - (1 : Int32)))) (v.1 2) (v.1 3) (v.1 4) (v.1 5 0) (v.1 6 0) (v.1 7 0) (v.1 8 0) (v.1 9 0)), v.2.1, v.2.2)) H := hP
    have hD : va_D A (cS cy a ((mkO (v.1 0) (upd (v.1 1) pl.toNatClampNeg (if (((v.1 1) pl.toNatClampNeg) - (1 : Int32)) < (0 : Int32) then (0 : Int32) else (((v.1 1) pl.toNatClampNeg) - (1 : Int32)))) (v.1 2) (v.1 3) (v.1 4) (v.1 5 0) (v.1 6 0) (v.1 7 0) (v.1 8 0) (v.1 9 0)), v.2.1, v.2.2)) := hD
    exact J43_2 (upd (v.1 1) pl.toNatClampNeg (if (((v.1 1) pl.toNatClampNeg) - (1 : Int32)) < (0 : Int32) then (0 : Int32) else (((v.1 1) pl.toNatClampNeg) - (1 : Int32)))) (by simp only [if_pos c_1, if_true, if_false]) H locs hP hD hS ls (lv_sub hl [0, 1, 2] rfl)
  · refine lv_aload_n hx hb dX3_moveChooser_4 rfl (lv_at hl 0 rfl) ?_
    refine va_get (D := D) (ci := 2) (v := .ref ((a 0) 3)) (C := RX3) (T := TX3) (N := 11) hx hb hts inX3_moveChooser_X3 hown hK hP 0 rfl rfl 2 (by decide) (hts _ (List.mem_of_getElem? (i := 1) rfl)) (fun _ h9 => h9) rfl dX3_moveChooser_5 ?_
    refine lv_iload_n hx hb dX3_moveChooser_8 rfl (lv_at hl 1 rfl) ?_
    refine lv_aload_n hx hb dX3_moveChooser_9 rfl (lv_at hl 0 rfl) ?_
    refine va_get (D := D) (ci := 2) (v := .ref ((a 0) 3)) (C := RX3) (T := TX3) (N := 11) hx hb hts inX3_moveChooser_X3 hown hK hP 0 rfl rfl 2 (by decide) (hts _ (List.mem_of_getElem? (i := 1) rfl)) (fun _ h9 => h9) rfl dX3_moveChooser_10 ?_
    refine lv_iload_n hx hb dX3_moveChooser_13 rfl (lv_at hl 1 rfl) ?_
    refine x_iald (f := (v.1 1)) (j := pl.toNatClampNeg) hx hb hK hP 3 0 rfl rfl rfl hpl dX3_moveChooser_14 ?_
    refine lv_iconst (v := 1) hx hb dX3_moveChooser_15 (by decide) ?_
    refine lv_iadd hx hb dX3_moveChooser_16 ?_
    refine lv_iconst (v := 3) hx hb dX3_moveChooser_17 (by decide) ?_
    refine va_mmin hx hb (hml.trans hl.1.symm) hown (hts _ (List.mem_of_getElem? (i := 2) rfl)) (hts _ (List.mem_of_getElem? (i := 3) rfl)) (hts _ (List.mem_of_getElem? (i := 4) rfl)) (hts _ (List.mem_of_getElem? (i := 5) rfl)) (Nat.le_of_ble_eq_true rfl) (Nat.le_of_ble_eq_true rfl) (Nat.le_of_ble_eq_true rfl) (Nat.le_of_ble_eq_true rfl) dX3_moveChooser_18 ?_
    refine x_iast (j := pl.toNatClampNeg) hx hb hK hP hD hS 3 0 rfl rfl rfl hpl dX3_moveChooser_21 (fun H locs hP hD hS => ?_)
    have hP : va_P D vwCl (cS cy a ((mkO (v.1 0) (upd (v.1 1) pl.toNatClampNeg (if (3 : Int32) < (((v.1 1) pl.toNatClampNeg) + (1 : Int32)) then (3 : Int32) else (((v.1 1) pl.toNatClampNeg) + (1 : Int32)))) (v.1 2) (v.1 3) (v.1 4) (v.1 5 0) (v.1 6 0) (v.1 7 0) (v.1 8 0) (v.1 9 0)), v.2.1, v.2.2)) H := hP
    have hD : va_D A (cS cy a ((mkO (v.1 0) (upd (v.1 1) pl.toNatClampNeg (if (3 : Int32) < (((v.1 1) pl.toNatClampNeg) + (1 : Int32)) then (3 : Int32) else (((v.1 1) pl.toNatClampNeg) + (1 : Int32)))) (v.1 2) (v.1 3) (v.1 4) (v.1 5 0) (v.1 6 0) (v.1 7 0) (v.1 8 0) (v.1 9 0)), v.2.1, v.2.2)) := hD
    refine lv_goto (tgt := 43) hx hb dX3_moveChooser_22 (by decide) ?_
    exact J43_2 (upd (v.1 1) pl.toNatClampNeg (if (3 : Int32) < (((v.1 1) pl.toNatClampNeg) + (1 : Int32)) then (3 : Int32) else (((v.1 1) pl.toNatClampNeg) + (1 : Int32)))) (by simp only [if_neg c_1, if_true, if_false]) H locs hP hD hS ls (lv_sub hl [0, 1, 2] rfl)

def w_X3_countGuess (v : SV) (pl : Int32) (tk : Int32) (gs : Int32) : SV := ((mkO (v.1 0) (v.1 1) (upd (v.1 2) pl.toNatClampNeg (((v.1 2) pl.toNatClampNeg) + (1 : Int32))) (if tk = 0 then (v.1 3) else (upd (v.1 3) pl.toNatClampNeg (((v.1 3) pl.toNatClampNeg) + (1 : Int32)))) (if gs = 0 then (v.1 4) else (upd (v.1 4) pl.toNatClampNeg (((v.1 4) pl.toNatClampNeg) + (1 : Int32)))) ((v.1 5 0) + (1 : Int32)) (if gs = 0 then (v.1 6 0) else ((v.1 6 0) + (1 : Int32))) (if gs = 0 then ((v.1 7 0) - ((v.1 0) 2)) else ((v.1 7 0) + (1 : Int32))) (if gs = 0 then (0 : Int32) else ((v.1 8 0) + (1 : Int32))) (if gs = 0 then (v.1 9 0) else (if (v.1 9 0) < ((v.1 8 0) + (1 : Int32)) then ((v.1 8 0) + (1 : Int32)) else (v.1 9 0)))), v.2.1, v.2.2)
abbrev rX3_countGuess : Room := { frames := 1, cells := 0, slots := 0, locals := 24 }
theorem inX3_countGuess_X3 : ∀ w ∈ u_ws RX3 TX3 11, w ∈ wsX3_countGuess := by decide +kernel
set_option maxHeartbeats 4000000 in
set_option maxRecDepth 100000 in
theorem c_X3_countGuess (l : Launch) (D : va_G) (cy : Nat → ClassId) (a : Nat → Nat → Nat) (v : SV) (pl : Int32) (tk : Int32) (gs : Int32) (sz : Nat) (hpl : vp_in pl 26) : CN l yX3_countGuess wsX3_countGuess rX3_countGuess D cy [.ref (a 0 0), .int pl, .int tk, .int gs] (cS cy a v) sz (cS cy a (w_X3_countGuess v pl tk gs)) 0 0 := by
  refine st_n (cc := cX3_countGuess) (maxL := 4) (by decide) rfl (Nat.le_of_ble_eq_true rfl) ?_
  intro pp e s m below meth c A Q ls hx hb hts hown hml hlocks hsz hP hK hD hE hA hl hret
  subst hsz
  have hown : s.vm.findClass RX3 = some m.cls := hown
  have hl : lv_has ls 4 [(0, .ref (a 0 0)), (1, .int pl), (2, .int tk), (3, .int gs)] := hl
  obtain ⟨H, hH⟩ : ∃ H, H = s.heap := ⟨_, rfl⟩
  rw [← hH] at hP ⊢
  have hS : va_S A s.heap H [] := by rw [hH]; exact va_S.rf
  obtain ⟨locs, hlo⟩ : ∃ locs : List Loc, locs = [] := ⟨_, rfl⟩
  rw [← hlo] at hS ⊢
  refine lv_aload_n hx hb dX3_countGuess_0 rfl (lv_at hl 0 rfl) ?_
  refine lv_dup hx hb dX3_countGuess_1 rfl ?_
  refine va_get (D := D) (ci := 2) (v := .int (v.1 5 0)) (C := RX3) (T := TX3) (N := 11) hx hb hts inX3_countGuess_X3 hown hK hP 0 rfl rfl 6 (by decide) (hts _ (List.mem_of_getElem? (i := 1) rfl)) (fun _ h9 => h9) rfl dX3_countGuess_2 ?_
  refine lv_iconst (v := 1) hx hb dX3_countGuess_5 (by decide) ?_
  refine lv_iadd hx hb dX3_countGuess_6 ?_
  refine va_put (D := D) (ci := 2) (v := .int ((v.1 5 0) + (1 : Int32))) (ty := .int) (C := RX3) (T := TX3) (N := 11) hx hb hts inX3_countGuess_X3 tyX3 tyX3_ok nmX3 hown hK hP hD hS 0 rfl rfl 6 (by decide) (hts _ (List.mem_of_getElem? (i := 1) rfl)) (fun _ h9 => h9) rfl (by decide +kernel) rfl rfl (Nat.le_of_ble_eq_true rfl) dX3_countGuess_7 (fun H locs hP hD hS => ?_)
  have hP : va_P D vwCl (cS cy a ((mkO (v.1 0) (v.1 1) (v.1 2) (v.1 3) (v.1 4) ((v.1 5 0) + (1 : Int32)) (v.1 6 0) (v.1 7 0) (v.1 8 0) (v.1 9 0)), v.2.1, v.2.2)) H := hP
  have hD : va_D A (cS cy a ((mkO (v.1 0) (v.1 1) (v.1 2) (v.1 3) (v.1 4) ((v.1 5 0) + (1 : Int32)) (v.1 6 0) (v.1 7 0) (v.1 8 0) (v.1 9 0)), v.2.1, v.2.2)) := hD
  refine lv_aload_n hx hb dX3_countGuess_10 rfl (lv_at hl 0 rfl) ?_
  refine va_get (D := D) (ci := 2) (v := .ref ((a 0) 4)) (C := RX3) (T := TX3) (N := 11) hx hb hts inX3_countGuess_X3 hown hK hP 0 rfl rfl 3 (by decide) (hts _ (List.mem_of_getElem? (i := 2) rfl)) (fun _ h9 => h9) rfl dX3_countGuess_11 ?_
  refine lv_iload_n hx hb dX3_countGuess_14 rfl (lv_at hl 1 rfl) ?_
  refine lv_dup2_11 hx hb dX3_countGuess_15 rfl rfl ?_
  refine x_iald (f := (v.1 2)) (j := pl.toNatClampNeg) hx hb hK hP 4 0 rfl rfl rfl hpl dX3_countGuess_16 ?_
  refine lv_iconst (v := 1) hx hb dX3_countGuess_17 (by decide) ?_
  refine lv_iadd hx hb dX3_countGuess_18 ?_
  refine x_iast (j := pl.toNatClampNeg) hx hb hK hP hD hS 4 0 rfl rfl rfl hpl dX3_countGuess_19 (fun H locs hP hD hS => ?_)
  have hP : va_P D vwCl (cS cy a ((mkO (v.1 0) (v.1 1) (upd (v.1 2) pl.toNatClampNeg (((v.1 2) pl.toNatClampNeg) + (1 : Int32))) (v.1 3) (v.1 4) ((v.1 5 0) + (1 : Int32)) (v.1 6 0) (v.1 7 0) (v.1 8 0) (v.1 9 0)), v.2.1, v.2.2)) H := hP
  have hD : va_D A (cS cy a ((mkO (v.1 0) (v.1 1) (upd (v.1 2) pl.toNatClampNeg (((v.1 2) pl.toNatClampNeg) + (1 : Int32))) (v.1 3) (v.1 4) ((v.1 5 0) + (1 : Int32)) (v.1 6 0) (v.1 7 0) (v.1 8 0) (v.1 9 0)), v.2.1, v.2.2)) := hD
  refine lv_iload_n hx hb dX3_countGuess_20 rfl (lv_at hl 2 rfl) ?_
  have J34_2 : ∀ (z_2 : Nat → Int32) (hz_2 : z_2 = (if tk = 0 then (v.1 3) else (upd (v.1 3) pl.toNatClampNeg (((v.1 3) pl.toNatClampNeg) + (1 : Int32))))) (H : Heap) (locs : List Loc), va_P D vwCl (cS cy a ((mkO (v.1 0) (v.1 1) (upd (v.1 2) pl.toNatClampNeg (((v.1 2) pl.toNatClampNeg) + (1 : Int32))) z_2 (v.1 4) ((v.1 5 0) + (1 : Int32)) (v.1 6 0) (v.1 7 0) (v.1 8 0) (v.1 9 0)), v.2.1, v.2.2)) H → va_D A (cS cy a ((mkO (v.1 0) (v.1 1) (upd (v.1 2) pl.toNatClampNeg (((v.1 2) pl.toNatClampNeg) + (1 : Int32))) z_2 (v.1 4) ((v.1 5 0) + (1 : Int32)) (v.1 6 0) (v.1 7 0) (v.1 8 0) (v.1 9 0)), v.2.1, v.2.2)) → va_S A s.heap H locs → ∀ ls : Array Slot, lv_has ls 4 [(0, .ref (a 0 0)), (1, .int pl), (2, .int tk), (3, .int gs)] → W pp l e rX3_countGuess s m ([.ref (a 0 0), .int pl, .int tk, .int gs] : List Value).toArray below meth c H locs 0 0 Q (F0 m 34 ls []) := by
    intro z_2 hz_2 H locs hP hD hS ls hl
    subst hz_2
    refine lv_iload_n hx hb dX3_countGuess_34 rfl (lv_at hl 3 rfl) ?_
    have J116_9 : ∀ (z_5 : Nat → Int32) (hz_5 : z_5 = (if gs = 0 then (v.1 4) else (upd (v.1 4) pl.toNatClampNeg (((v.1 4) pl.toNatClampNeg) + (1 : Int32))))) (z_6 : Int32) (hz_6 : z_6 = (if gs = 0 then (v.1 6 0) else ((v.1 6 0) + (1 : Int32)))) (z_7 : Int32) (hz_7 : z_7 = (if gs = 0 then ((v.1 7 0) - ((v.1 0) 2)) else ((v.1 7 0) + (1 : Int32)))) (z_8 : Int32) (hz_8 : z_8 = (if gs = 0 then (0 : Int32) else ((v.1 8 0) + (1 : Int32)))) (z_9 : Int32) (hz_9 : z_9 = (if gs = 0 then (v.1 9 0) else (if (v.1 9 0) < ((v.1 8 0) + (1 : Int32)) then ((v.1 8 0) + (1 : Int32)) else (v.1 9 0)))) (H : Heap) (locs : List Loc), va_P D vwCl (cS cy a ((mkO (v.1 0) (v.1 1) (upd (v.1 2) pl.toNatClampNeg (((v.1 2) pl.toNatClampNeg) + (1 : Int32))) (if tk = 0 then (v.1 3) else (upd (v.1 3) pl.toNatClampNeg (((v.1 3) pl.toNatClampNeg) + (1 : Int32)))) z_5 ((v.1 5 0) + (1 : Int32)) z_6 z_7 z_8 z_9), v.2.1, v.2.2)) H → va_D A (cS cy a ((mkO (v.1 0) (v.1 1) (upd (v.1 2) pl.toNatClampNeg (((v.1 2) pl.toNatClampNeg) + (1 : Int32))) (if tk = 0 then (v.1 3) else (upd (v.1 3) pl.toNatClampNeg (((v.1 3) pl.toNatClampNeg) + (1 : Int32)))) z_5 ((v.1 5 0) + (1 : Int32)) z_6 z_7 z_8 z_9), v.2.1, v.2.2)) → va_S A s.heap H locs → ∀ ls : Array Slot, lv_has ls 4 [(0, .ref (a 0 0)), (1, .int pl), (2, .int tk), (3, .int gs)] → W pp l e rX3_countGuess s m ([.ref (a 0 0), .int pl, .int tk, .int gs] : List Value).toArray below meth c H locs 0 0 Q (F0 m 116 ls []) := by
      intro z_5 hz_5 z_6 hz_6 z_7 hz_7 z_8 hz_8 z_9 hz_9 H locs hP hD hS ls hl
      subst hz_5
      subst hz_6
      subst hz_7
      subst hz_8
      subst hz_9
      have hw9 : (w_X3_countGuess v pl tk gs) = ((mkO (v.1 0) (v.1 1) (upd (v.1 2) pl.toNatClampNeg (((v.1 2) pl.toNatClampNeg) + (1 : Int32))) (if tk = 0 then (v.1 3) else (upd (v.1 3) pl.toNatClampNeg (((v.1 3) pl.toNatClampNeg) + (1 : Int32)))) (if gs = 0 then (v.1 4) else (upd (v.1 4) pl.toNatClampNeg (((v.1 4) pl.toNatClampNeg) + (1 : Int32)))) ((v.1 5 0) + (1 : Int32)) (if gs = 0 then (v.1 6 0) else ((v.1 6 0) + (1 : Int32))) (if gs = 0 then ((v.1 7 0) - ((v.1 0) 2)) else ((v.1 7 0) + (1 : Int32))) (if gs = 0 then (0 : Int32) else ((v.1 8 0) + (1 : Int32))) (if gs = 0 then (v.1 9 0) else (if (v.1 9 0) < ((v.1 8 0) + (1 : Int32)) then ((v.1 8 0) + (1 : Int32)) else (v.1 9 0)))), v.2.1, v.2.2) := by rfl
      exact hret H locs _ ls (by rw [hw9]; exact hP) (by rw [hw9]; exact hD) hS dX3_countGuess_116
    refine lv_if_eq (tgt := 96) hx hb dX3_countGuess_35 (by decide) (fun c_4 => ?_) (fun c_4 => ?_)
    · refine lv_aload_n hx hb dX3_countGuess_96 rfl (lv_at hl 0 rfl) ?_
      refine lv_dup hx hb dX3_countGuess_97 rfl ?_
      refine va_get (D := D) (ci := 2) (v := .int (v.1 7 0)) (C := RX3) (T := TX3) (N := 11) hx hb hts inX3_countGuess_X3 hown hK hP 0 rfl rfl 8 (by decide) (hts _ (List.mem_of_getElem? (i := 6) rfl)) (fun _ h9 => h9) rfl dX3_countGuess_98 ?_
      refine lv_aload_n hx hb dX3_countGuess_101 rfl (lv_at hl 0 rfl) ?_
      refine va_get (D := D) (ci := 2) (v := .ref ((a 0) 1)) (C := RX3) (T := TX3) (N := 11) hx hb hts inX3_countGuess_X3 hown hK hP 0 rfl rfl 0 (by decide) (hts _ (List.mem_of_getElem? (i := 13) rfl)) (fun _ h9 => h9) rfl dX3_countGuess_102 ?_
      refine lv_iconst (v := 2) hx hb dX3_countGuess_105 (by decide) ?_
      refine x_iald (f := (v.1 0)) (j := 2) hx hb hK hP 1 0 rfl rfl rfl (vp_c (by decide)) dX3_countGuess_106 ?_
      refine lv_isub hx hb dX3_countGuess_107 ?_
      refine va_put (D := D) (ci := 2) (v := .int ((v.1 7 0) - ((v.1 0) 2))) (ty := .int) (C := RX3) (T := TX3) (N := 11) hx hb hts inX3_countGuess_X3 tyX3 tyX3_ok nmX3 hown hK hP hD hS 0 rfl rfl 8 (by decide) (hts _ (List.mem_of_getElem? (i := 6) rfl)) (fun _ h9 => h9) rfl (by decide +kernel) rfl rfl (Nat.le_of_ble_eq_true rfl) dX3_countGuess_108 (fun H locs hP hD hS => ?_)
      have hP : va_P D vwCl (cS cy a ((mkO (v.1 0) (v.1 1) (upd (v.1 2) pl.toNatClampNeg (((v.1 2) pl.toNatClampNeg) + (1 : Int32))) (if tk = 0 then (v.1 3) else (upd (v.1 3) pl.toNatClampNeg (((v.1 3) pl.toNatClampNeg) + (1 : Int32)))) (v.1 4) ((v.1 5 0) + (1 : Int32)) (v.1 6 0) ((v.1 7 0) - ((v.1 0) 2)) (v.1 8 0) (v.1 9 0)), v.2.1, v.2.2)) H := hP
      have hD : va_D A (cS cy a ((mkO (v.1 0) (v.1 1) (upd (v.1 2) pl.toNatClampNeg (((v.1 2) pl.toNatClampNeg) + (1 : Int32))) (if tk = 0 then (v.1 3) else (upd (v.1 3) pl.toNatClampNeg (((v.1 3) pl.toNatClampNeg) + (1 : Int32)))) (v.1 4) ((v.1 5 0) + (1 : Int32)) (v.1 6 0) ((v.1 7 0) - ((v.1 0) 2)) (v.1 8 0) (v.1 9 0)), v.2.1, v.2.2)) := hD
      refine lv_aload_n hx hb dX3_countGuess_111 rfl (lv_at hl 0 rfl) ?_
      refine lv_iconst (v := 0) hx hb dX3_countGuess_112 (by decide) ?_
      refine va_put (D := D) (ci := 2) (v := .int (0 : Int32)) (ty := .int) (C := RX3) (T := TX3) (N := 11) hx hb hts inX3_countGuess_X3 tyX3 tyX3_ok nmX3 hown hK hP hD hS 0 rfl rfl 9 (by decide) (hts _ (List.mem_of_getElem? (i := 7) rfl)) (fun _ h9 => h9) rfl (by decide +kernel) rfl rfl (Nat.le_of_ble_eq_true rfl) dX3_countGuess_113 (fun H locs hP hD hS => ?_)
      have hP : va_P D vwCl (cS cy a ((mkO (v.1 0) (v.1 1) (upd (v.1 2) pl.toNatClampNeg (((v.1 2) pl.toNatClampNeg) + (1 : Int32))) (if tk = 0 then (v.1 3) else (upd (v.1 3) pl.toNatClampNeg (((v.1 3) pl.toNatClampNeg) + (1 : Int32)))) (v.1 4) ((v.1 5 0) + (1 : Int32)) (v.1 6 0) ((v.1 7 0) - ((v.1 0) 2)) (0 : Int32) (v.1 9 0)), v.2.1, v.2.2)) H := hP
      have hD : va_D A (cS cy a ((mkO (v.1 0) (v.1 1) (upd (v.1 2) pl.toNatClampNeg (((v.1 2) pl.toNatClampNeg) + (1 : Int32))) (if tk = 0 then (v.1 3) else (upd (v.1 3) pl.toNatClampNeg (((v.1 3) pl.toNatClampNeg) + (1 : Int32)))) (v.1 4) ((v.1 5 0) + (1 : Int32)) (v.1 6 0) ((v.1 7 0) - ((v.1 0) 2)) (0 : Int32) (v.1 9 0)), v.2.1, v.2.2)) := hD
      exact J116_9 (v.1 4) (by simp only [if_pos c_4, if_true, if_false]) (v.1 6 0) (by simp only [if_pos c_4, if_true, if_false]) ((v.1 7 0) - ((v.1 0) 2)) (by simp only [if_pos c_4, if_true, if_false]) (0 : Int32) (by simp only [if_pos c_4, if_true, if_false]) (v.1 9 0) (by simp only [if_pos c_4, if_true, if_false]) H locs hP hD hS ls (lv_sub hl [0, 1, 2, 3] rfl)
    · refine lv_aload_n hx hb dX3_countGuess_38 rfl (lv_at hl 0 rfl) ?_
      refine lv_dup hx hb dX3_countGuess_39 rfl ?_
      refine va_get (D := D) (ci := 2) (v := .int (v.1 6 0)) (C := RX3) (T := TX3) (N := 11) hx hb hts inX3_countGuess_X3 hown hK hP 0 rfl rfl 7 (by decide) (hts _ (List.mem_of_getElem? (i := 4) rfl)) (fun _ h9 => h9) rfl dX3_countGuess_40 ?_
      refine lv_iconst (v := 1) hx hb dX3_countGuess_43 (by decide) ?_
      refine lv_iadd hx hb dX3_countGuess_44 ?_
      refine va_put (D := D) (ci := 2) (v := .int ((v.1 6 0) + (1 : Int32))) (ty := .int) (C := RX3) (T := TX3) (N := 11) hx hb hts inX3_countGuess_X3 tyX3 tyX3_ok nmX3 hown hK hP hD hS 0 rfl rfl 7 (by decide) (hts _ (List.mem_of_getElem? (i := 4) rfl)) (fun _ h9 => h9) rfl (by decide +kernel) rfl rfl (Nat.le_of_ble_eq_true rfl) dX3_countGuess_45 (fun H locs hP hD hS => ?_)
      have hP : va_P D vwCl (cS cy a ((mkO (v.1 0) (v.1 1) (upd (v.1 2) pl.toNatClampNeg (((v.1 2) pl.toNatClampNeg) + (1 : Int32))) (if tk = 0 then (v.1 3) else (upd (v.1 3) pl.toNatClampNeg (((v.1 3) pl.toNatClampNeg) + (1 : Int32)))) (v.1 4) ((v.1 5 0) + (1 : Int32)) ((v.1 6 0) + (1 : Int32)) (v.1 7 0) (v.1 8 0) (v.1 9 0)), v.2.1, v.2.2)) H := hP
      have hD : va_D A (cS cy a ((mkO (v.1 0) (v.1 1) (upd (v.1 2) pl.toNatClampNeg (((v.1 2) pl.toNatClampNeg) + (1 : Int32))) (if tk = 0 then (v.1 3) else (upd (v.1 3) pl.toNatClampNeg (((v.1 3) pl.toNatClampNeg) + (1 : Int32)))) (v.1 4) ((v.1 5 0) + (1 : Int32)) ((v.1 6 0) + (1 : Int32)) (v.1 7 0) (v.1 8 0) (v.1 9 0)), v.2.1, v.2.2)) := hD
      refine lv_aload_n hx hb dX3_countGuess_48 rfl (lv_at hl 0 rfl) ?_
      refine va_get (D := D) (ci := 2) (v := .ref ((a 0) 6)) (C := RX3) (T := TX3) (N := 11) hx hb hts inX3_countGuess_X3 hown hK hP 0 rfl rfl 5 (by decide) (hts _ (List.mem_of_getElem? (i := 5) rfl)) (fun _ h9 => h9) rfl dX3_countGuess_49 ?_
      refine lv_iload_n hx hb dX3_countGuess_52 rfl (lv_at hl 1 rfl) ?_
      refine lv_dup2_11 hx hb dX3_countGuess_53 rfl rfl ?_
      refine x_iald (f := (v.1 4)) (j := pl.toNatClampNeg) hx hb hK hP 6 0 rfl rfl rfl hpl dX3_countGuess_54 ?_
      refine lv_iconst (v := 1) hx hb dX3_countGuess_55 (by decide) ?_
      refine lv_iadd hx hb dX3_countGuess_56 ?_
      refine x_iast (j := pl.toNatClampNeg) hx hb hK hP hD hS 6 0 rfl rfl rfl hpl dX3_countGuess_57 (fun H locs hP hD hS => ?_)
      have hP : va_P D vwCl (cS cy a ((mkO (v.1 0) (v.1 1) (upd (v.1 2) pl.toNatClampNeg (((v.1 2) pl.toNatClampNeg) + (1 : Int32))) (if tk = 0 then (v.1 3) else (upd (v.1 3) pl.toNatClampNeg (((v.1 3) pl.toNatClampNeg) + (1 : Int32)))) (upd (v.1 4) pl.toNatClampNeg (((v.1 4) pl.toNatClampNeg) + (1 : Int32))) ((v.1 5 0) + (1 : Int32)) ((v.1 6 0) + (1 : Int32)) (v.1 7 0) (v.1 8 0) (v.1 9 0)), v.2.1, v.2.2)) H := hP
      have hD : va_D A (cS cy a ((mkO (v.1 0) (v.1 1) (upd (v.1 2) pl.toNatClampNeg (((v.1 2) pl.toNatClampNeg) + (1 : Int32))) (if tk = 0 then (v.1 3) else (upd (v.1 3) pl.toNatClampNeg (((v.1 3) pl.toNatClampNeg) + (1 : Int32)))) (upd (v.1 4) pl.toNatClampNeg (((v.1 4) pl.toNatClampNeg) + (1 : Int32))) ((v.1 5 0) + (1 : Int32)) ((v.1 6 0) + (1 : Int32)) (v.1 7 0) (v.1 8 0) (v.1 9 0)), v.2.1, v.2.2)) := hD
      refine lv_aload_n hx hb dX3_countGuess_58 rfl (lv_at hl 0 rfl) ?_
      refine lv_dup hx hb dX3_countGuess_59 rfl ?_
      refine va_get (D := D) (ci := 2) (v := .int (v.1 7 0)) (C := RX3) (T := TX3) (N := 11) hx hb hts inX3_countGuess_X3 hown hK hP 0 rfl rfl 8 (by decide) (hts _ (List.mem_of_getElem? (i := 6) rfl)) (fun _ h9 => h9) rfl dX3_countGuess_60 ?_
      refine lv_iconst (v := 1) hx hb dX3_countGuess_63 (by decide) ?_
      refine lv_iadd hx hb dX3_countGuess_64 ?_
      refine va_put (D := D) (ci := 2) (v := .int ((v.1 7 0) + (1 : Int32))) (ty := .int) (C := RX3) (T := TX3) (N := 11) hx hb hts inX3_countGuess_X3 tyX3 tyX3_ok nmX3 hown hK hP hD hS 0 rfl rfl 8 (by decide) (hts _ (List.mem_of_getElem? (i := 6) rfl)) (fun _ h9 => h9) rfl (by decide +kernel) rfl rfl (Nat.le_of_ble_eq_true rfl) dX3_countGuess_65 (fun H locs hP hD hS => ?_)
      have hP : va_P D vwCl (cS cy a ((mkO (v.1 0) (v.1 1) (upd (v.1 2) pl.toNatClampNeg (((v.1 2) pl.toNatClampNeg) + (1 : Int32))) (if tk = 0 then (v.1 3) else (upd (v.1 3) pl.toNatClampNeg (((v.1 3) pl.toNatClampNeg) + (1 : Int32)))) (upd (v.1 4) pl.toNatClampNeg (((v.1 4) pl.toNatClampNeg) + (1 : Int32))) ((v.1 5 0) + (1 : Int32)) ((v.1 6 0) + (1 : Int32)) ((v.1 7 0) + (1 : Int32)) (v.1 8 0) (v.1 9 0)), v.2.1, v.2.2)) H := hP
      have hD : va_D A (cS cy a ((mkO (v.1 0) (v.1 1) (upd (v.1 2) pl.toNatClampNeg (((v.1 2) pl.toNatClampNeg) + (1 : Int32))) (if tk = 0 then (v.1 3) else (upd (v.1 3) pl.toNatClampNeg (((v.1 3) pl.toNatClampNeg) + (1 : Int32)))) (upd (v.1 4) pl.toNatClampNeg (((v.1 4) pl.toNatClampNeg) + (1 : Int32))) ((v.1 5 0) + (1 : Int32)) ((v.1 6 0) + (1 : Int32)) ((v.1 7 0) + (1 : Int32)) (v.1 8 0) (v.1 9 0)), v.2.1, v.2.2)) := hD
      refine lv_aload_n hx hb dX3_countGuess_68 rfl (lv_at hl 0 rfl) ?_
      refine lv_dup hx hb dX3_countGuess_69 rfl ?_
      refine va_get (D := D) (ci := 2) (v := .int (v.1 8 0)) (C := RX3) (T := TX3) (N := 11) hx hb hts inX3_countGuess_X3 hown hK hP 0 rfl rfl 9 (by decide) (hts _ (List.mem_of_getElem? (i := 7) rfl)) (fun _ h9 => h9) rfl dX3_countGuess_70 ?_
      refine lv_iconst (v := 1) hx hb dX3_countGuess_73 (by decide) ?_
      refine lv_iadd hx hb dX3_countGuess_74 ?_
      refine va_put (D := D) (ci := 2) (v := .int ((v.1 8 0) + (1 : Int32))) (ty := .int) (C := RX3) (T := TX3) (N := 11) hx hb hts inX3_countGuess_X3 tyX3 tyX3_ok nmX3 hown hK hP hD hS 0 rfl rfl 9 (by decide) (hts _ (List.mem_of_getElem? (i := 7) rfl)) (fun _ h9 => h9) rfl (by decide +kernel) rfl rfl (Nat.le_of_ble_eq_true rfl) dX3_countGuess_75 (fun H locs hP hD hS => ?_)
      have hP : va_P D vwCl (cS cy a ((mkO (v.1 0) (v.1 1) (upd (v.1 2) pl.toNatClampNeg (((v.1 2) pl.toNatClampNeg) + (1 : Int32))) (if tk = 0 then (v.1 3) else (upd (v.1 3) pl.toNatClampNeg (((v.1 3) pl.toNatClampNeg) + (1 : Int32)))) (upd (v.1 4) pl.toNatClampNeg (((v.1 4) pl.toNatClampNeg) + (1 : Int32))) ((v.1 5 0) + (1 : Int32)) ((v.1 6 0) + (1 : Int32)) ((v.1 7 0) + (1 : Int32)) ((v.1 8 0) + (1 : Int32)) (v.1 9 0)), v.2.1, v.2.2)) H := hP
      have hD : va_D A (cS cy a ((mkO (v.1 0) (v.1 1) (upd (v.1 2) pl.toNatClampNeg (((v.1 2) pl.toNatClampNeg) + (1 : Int32))) (if tk = 0 then (v.1 3) else (upd (v.1 3) pl.toNatClampNeg (((v.1 3) pl.toNatClampNeg) + (1 : Int32)))) (upd (v.1 4) pl.toNatClampNeg (((v.1 4) pl.toNatClampNeg) + (1 : Int32))) ((v.1 5 0) + (1 : Int32)) ((v.1 6 0) + (1 : Int32)) ((v.1 7 0) + (1 : Int32)) ((v.1 8 0) + (1 : Int32)) (v.1 9 0)), v.2.1, v.2.2)) := hD
      refine lv_aload_n hx hb dX3_countGuess_78 rfl (lv_at hl 0 rfl) ?_
      refine lv_aload_n hx hb dX3_countGuess_79 rfl (lv_at hl 0 rfl) ?_
      refine va_get (D := D) (ci := 2) (v := .int (v.1 9 0)) (C := RX3) (T := TX3) (N := 11) hx hb hts inX3_countGuess_X3 hown hK hP 0 rfl rfl 10 (by decide) (hts _ (List.mem_of_getElem? (i := 8) rfl)) (fun _ h9 => h9) rfl dX3_countGuess_80 ?_
      refine lv_aload_n hx hb dX3_countGuess_83 rfl (lv_at hl 0 rfl) ?_
      refine va_get (D := D) (ci := 2) (v := .int ((v.1 8 0) + (1 : Int32))) (C := RX3) (T := TX3) (N := 11) hx hb hts inX3_countGuess_X3 hown hK hP 0 rfl rfl 9 (by decide) (hts _ (List.mem_of_getElem? (i := 7) rfl)) (fun _ h9 => h9) rfl dX3_countGuess_84 ?_
      refine va_mmax hx hb (hml.trans hl.1.symm) hown (hts _ (List.mem_of_getElem? (i := 9) rfl)) (hts _ (List.mem_of_getElem? (i := 10) rfl)) (hts _ (List.mem_of_getElem? (i := 11) rfl)) (hts _ (List.mem_of_getElem? (i := 12) rfl)) (Nat.le_of_ble_eq_true rfl) (Nat.le_of_ble_eq_true rfl) (Nat.le_of_ble_eq_true rfl) (Nat.le_of_ble_eq_true rfl) dX3_countGuess_87 ?_
      refine va_put (D := D) (ci := 2) (v := .int (if (v.1 9 0) < ((v.1 8 0) + (1 : Int32)) then ((v.1 8 0) + (1 : Int32)) else (v.1 9 0))) (ty := .int) (C := RX3) (T := TX3) (N := 11) hx hb hts inX3_countGuess_X3 tyX3 tyX3_ok nmX3 hown hK hP hD hS 0 rfl rfl 10 (by decide) (hts _ (List.mem_of_getElem? (i := 8) rfl)) (fun _ h9 => h9) rfl (by decide +kernel) rfl rfl (Nat.le_of_ble_eq_true rfl) dX3_countGuess_90 (fun H locs hP hD hS => ?_)
      have hP : va_P D vwCl (cS cy a ((mkO (v.1 0) (v.1 1) (upd (v.1 2) pl.toNatClampNeg (((v.1 2) pl.toNatClampNeg) + (1 : Int32))) (if tk = 0 then (v.1 3) else (upd (v.1 3) pl.toNatClampNeg (((v.1 3) pl.toNatClampNeg) + (1 : Int32)))) (upd (v.1 4) pl.toNatClampNeg (((v.1 4) pl.toNatClampNeg) + (1 : Int32))) ((v.1 5 0) + (1 : Int32)) ((v.1 6 0) + (1 : Int32)) ((v.1 7 0) + (1 : Int32)) ((v.1 8 0) + (1 : Int32)) (if (v.1 9 0) < ((v.1 8 0) + (1 : Int32)) then ((v.1 8 0) + (1 : Int32)) else (v.1 9 0))), v.2.1, v.2.2)) H := hP
      have hD : va_D A (cS cy a ((mkO (v.1 0) (v.1 1) (upd (v.1 2) pl.toNatClampNeg (((v.1 2) pl.toNatClampNeg) + (1 : Int32))) (if tk = 0 then (v.1 3) else (upd (v.1 3) pl.toNatClampNeg (((v.1 3) pl.toNatClampNeg) + (1 : Int32)))) (upd (v.1 4) pl.toNatClampNeg (((v.1 4) pl.toNatClampNeg) + (1 : Int32))) ((v.1 5 0) + (1 : Int32)) ((v.1 6 0) + (1 : Int32)) ((v.1 7 0) + (1 : Int32)) ((v.1 8 0) + (1 : Int32)) (if (v.1 9 0) < ((v.1 8 0) + (1 : Int32)) then ((v.1 8 0) + (1 : Int32)) else (v.1 9 0))), v.2.1, v.2.2)) := hD
      refine lv_goto (tgt := 116) hx hb dX3_countGuess_93 (by decide) ?_
      exact J116_9 (upd (v.1 4) pl.toNatClampNeg (((v.1 4) pl.toNatClampNeg) + (1 : Int32))) (by simp only [if_neg c_4, if_true, if_false]) ((v.1 6 0) + (1 : Int32)) (by simp only [if_neg c_4, if_true, if_false]) ((v.1 7 0) + (1 : Int32)) (by simp only [if_neg c_4, if_true, if_false]) ((v.1 8 0) + (1 : Int32)) (by simp only [if_neg c_4, if_true, if_false]) (if (v.1 9 0) < ((v.1 8 0) + (1 : Int32)) then ((v.1 8 0) + (1 : Int32)) else (v.1 9 0)) (by simp only [if_neg c_4, if_true, if_false]) H locs hP hD hS ls (lv_sub hl [0, 1, 2, 3] rfl)
  refine lv_if_eq (tgt := 34) hx hb dX3_countGuess_21 (by decide) (fun c_1 => ?_) (fun c_1 => ?_)
  · exact J34_2 (v.1 3) (by simp only [if_pos c_1, if_true, if_false]) H locs hP hD hS ls (lv_sub hl [0, 1, 2, 3] rfl)
  · refine lv_aload_n hx hb dX3_countGuess_24 rfl (lv_at hl 0 rfl) ?_
    refine va_get (D := D) (ci := 2) (v := .ref ((a 0) 5)) (C := RX3) (T := TX3) (N := 11) hx hb hts inX3_countGuess_X3 hown hK hP 0 rfl rfl 4 (by decide) (hts _ (List.mem_of_getElem? (i := 3) rfl)) (fun _ h9 => h9) rfl dX3_countGuess_25 ?_
    refine lv_iload_n hx hb dX3_countGuess_28 rfl (lv_at hl 1 rfl) ?_
    refine lv_dup2_11 hx hb dX3_countGuess_29 rfl rfl ?_
    refine x_iald (f := (v.1 3)) (j := pl.toNatClampNeg) hx hb hK hP 5 0 rfl rfl rfl hpl dX3_countGuess_30 ?_
    refine lv_iconst (v := 1) hx hb dX3_countGuess_31 (by decide) ?_
    refine lv_iadd hx hb dX3_countGuess_32 ?_
    refine x_iast (j := pl.toNatClampNeg) hx hb hK hP hD hS 5 0 rfl rfl rfl hpl dX3_countGuess_33 (fun H locs hP hD hS => ?_)
    have hP : va_P D vwCl (cS cy a ((mkO (v.1 0) (v.1 1) (upd (v.1 2) pl.toNatClampNeg (((v.1 2) pl.toNatClampNeg) + (1 : Int32))) (upd (v.1 3) pl.toNatClampNeg (((v.1 3) pl.toNatClampNeg) + (1 : Int32))) (v.1 4) ((v.1 5 0) + (1 : Int32)) (v.1 6 0) (v.1 7 0) (v.1 8 0) (v.1 9 0)), v.2.1, v.2.2)) H := hP
    have hD : va_D A (cS cy a ((mkO (v.1 0) (v.1 1) (upd (v.1 2) pl.toNatClampNeg (((v.1 2) pl.toNatClampNeg) + (1 : Int32))) (upd (v.1 3) pl.toNatClampNeg (((v.1 3) pl.toNatClampNeg) + (1 : Int32))) (v.1 4) ((v.1 5 0) + (1 : Int32)) (v.1 6 0) (v.1 7 0) (v.1 8 0) (v.1 9 0)), v.2.1, v.2.2)) := hD
    exact J34_2 (upd (v.1 3) pl.toNatClampNeg (((v.1 3) pl.toNatClampNeg) + (1 : Int32))) (by simp only [if_neg c_1, if_true, if_false]) H locs hP hD hS ls (lv_sub hl [0, 1, 2, 3] rfl)
end
