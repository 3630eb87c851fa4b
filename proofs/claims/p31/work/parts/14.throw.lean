/-! ===== methods that throw: contracts, starts, calls ===== -/
def exn (x : Int32) : String := if x = -9999001 then "java/lang/IndexOutOfBoundsException" else if x = -9999002 then "java/lang/IllegalArgumentException" else "java/lang/IllegalStateException"
def QX (D : va_G) (ws : va_W) (sz : Nat) (o : Int32 × Int32) (w1 : va_W) : Array Value → State → Outcome → State → Prop := va_Qi (fun (r : Int32) (_ : Unit) => o.1 = 0 ∧ r = o.2) (fun _ t => BW D ws sz w1 t) (va_A ws sz)
def QXN (D : va_G) (ws : va_W) (sz : Nat) (o : Int32) (w1 : va_W) : Array Value → State → Outcome → State → Prop := va_Qv (fun (_ : Unit) => o = 0) (fun _ t => BW D ws sz w1 t) (va_A ws sz)
def XX (D : va_G) (ws : va_W) (sz : Nat) (o : Int32) (w1 : va_W) : String → State → State → Prop := vx_X (fun (_ : Unit) => ¬ o = 0) (fun E _ t => E = exn o ∧ BW D ws sz w1 t) (va_A ws sz)
def CX (l : Launch) (y : MethodName) (wy : List Cond) (rm : Room) (D : va_G) (cy : Nat → ClassId) (av : List Value) (ws : va_W) (sz : Nat) (o : Int32 × Int32) (w1 : va_W) (mc ms : Nat) : Prop := vx_Met l y wy rm (PU D cy av ws sz) (QX D ws sz o w1) (XX D ws sz o.1 w1) mc ms (va_A ws sz)
def CXN (l : Launch) (y : MethodName) (wy : List Cond) (rm : Room) (D : va_G) (cy : Nat → ClassId) (av : List Value) (ws : va_W) (sz : Nat) (o : Int32) (w1 : va_W) (mc ms : Nat) : Prop := vx_Met l y wy rm (PU D cy av ws sz) (QXN D ws sz o w1) (XX D ws sz o w1) mc ms (va_A ws sz)
/-- the end by an exception that is on its way -/
theorem XX_of {D : va_G} {ws : va_W} {o : Int32} {w1 : va_W} {A : Nat → Prop} {s t : State} {H : Heap} {locs : List Loc} (hAe : A = va_A ws s.heap.size) (ho : ¬ o = 0) (hP : va_P D vwCl w1 H) (hD : va_D A w1) (hS : va_S A s.heap H locs) (hz : H.size ≤ t.heap.size) (hk : ∀ q : Nat, q < H.size → t.heap[q]? = H[q]?) : XX D ws s.heap.size o w1 (exn o) s t := by
  subst hAe
  refine ⟨(), ho, ⟨rfl, hP.kept (fun k q h => hk q.1 ((hP k q h).lt)), hD⟩, Nat.le_trans hS.1 hz, fun q h1 h2 => ?_⟩
  rw [hk q (Nat.lt_of_lt_of_le h1 hS.1)]
  exact hS.2.1 q h1 h2
section STX
variable {l : Launch} {y : MethodName} {wy ws' : List Cond} {rm : Room} {D : va_G} {cy : Nat → ClassId} {av : List Value} {ws w1 : va_W} {sz mc ms : Nat} {cc : ByteArray} {maxL : Nat}
theorem stx_i {o : Int32 × Int32} {ty : FieldType} (hy : plainName y.cls = true) (hw : wy = Cond.code y cc maxL (some ty) :: ws') (hn : narrow ty (.int o.2) = .int o.2) (hlen : (lg_sl av).length ≤ maxL)
    (body : ∀ (p : Program) (e : Env) (s : State) (m : MethodId) (below : List Frame) (meth : Method) (c : Code) (A : Nat → Prop) (Q : State → Prop) (ls : Array Slot), p.tables.exec = Jvm.exec → c.code = cc → (∀ w ∈ wy, w.before av.toArray s = true) → s.vm.findClass y.cls = some m.cls → c.maxLocals = maxL → meth.locks = false → (∀ x ∈ c.exceptionTable.toList, False) → s.heap.size = sz → va_P D vwCl ws s.heap → va_K D vwCl (ty4 cy) s → va_D A ws → Ev A s s.heap → (∀ q, s.heap.size ≤ q → A q) → lv_has ls maxL (lv_args 0 av) → A = va_A ws sz → Q = vx_MQ below (QX D ws sz o w1) (XX D ws sz o.1 w1) av.toArray s mc ms (va_A ws sz) →
      (∀ (r : Int32) (H : Heap) (locs : List Loc) (pc : Nat) (ls : Array Slot), o = (0, r) → va_P D vwCl w1 H → va_D A w1 → va_S A s.heap H locs → decode cc pc = .ok (.ireturn, 1) → W p l e rm s m av.toArray below meth c H locs mc ms Q (F0 m pc ls [.int r])) →
      (∀ (x : Int32) (q : Nat) (ce : Cell) (H : Heap) (locs : List Loc) (pc : Nat) (ls : Array Slot) (rest : List Value), o.1 = x → ¬ x = 0 → H[q]? = some ce → ce.vm = .none → s.vm.findClass (exn x) = some ce.cls → va_P D vwCl w1 H → va_D A w1 → va_S A s.heap H locs → vx_W p l e rm s m av.toArray below meth c H locs mc ms Q (F0 m pc ls rest) q) →
      W p l e rm s m av.toArray below meth c s.heap [] 0 0 Q (F0 m 0 ls [])) : CX l y wy rm D cy av ws sz o w1 mc ms := by
  refine vx_ofW (cc := cc) (maxL := maxL) (ret := some ty) hy hw ?_
  intro p e s m args below meth c s₁ B hml htab hv
  obtain ⟨rfl, hsz, hP, hK, hD0, hE⟩ := hv
  have hx := B.exec
  have hb := B.bytes
  have hr := B.returns
  have hts := atoms_spec (ws := wy) B.pre
  have hown : s.vm.findClass y.cls = some m.cls := findClass_of_methodNamed B.named
  have hlocks := B.notSynchronized
  have hD := hD0.self (sz := sz)
  have hl := lv_entry av (n := maxL) hlen
  rw [lg_entry_eq]
  refine body p e s m below meth c (va_A ws sz) _ _ hx hb hts hown hml hlocks htab hsz hP hK hD hE (fun q h => Or.inr (by rw [← hsz]; exact h)) hl rfl rfl ?_ ?_
  · intro r H locs pc ls hrr hP1 hD1 hS1 hdg
    have hr1 : o.1 = 0 := by rw [hrr]
    have hr2 : r = o.2 := by rw [hrr]
    rw [hrr] at hn
    exact vx_ret (W.zret hx hb hr hn (fun t ht hW => ⟨⟨r, (), rfl, ⟨hr1, hr2⟩, by rw [ht]; exact hP1, hD1⟩, hS1.F ht⟩) hS1.2.2 hdg hlocks)
  · intro x q ce H locs pc ls rest hox hx0 hq hcv hcl hP1 hD1 hS1
    subst hox
    subst hsz
    exact vx_out (fun x hx => (htab x hx).elim) hlocks hq hcv hcl (fun t ht hA => XX_of rfl hx0 hP1 hD1 hS1 (by rw [ht]; exact Nat.le_refl _) (fun q _ => by rw [ht])) hS1.2.2 (Nat.le_refl _) (Nat.le_refl _)
theorem stx_n {o : Int32} (hy : plainName y.cls = true) (hw : wy = Cond.code y cc maxL none :: ws') (hlen : (lg_sl av).length ≤ maxL)
    (body : ∀ (p : Program) (e : Env) (s : State) (m : MethodId) (below : List Frame) (meth : Method) (c : Code) (A : Nat → Prop) (Q : State → Prop) (ls : Array Slot), p.tables.exec = Jvm.exec → c.code = cc → (∀ w ∈ wy, w.before av.toArray s = true) → s.vm.findClass y.cls = some m.cls → c.maxLocals = maxL → meth.locks = false → (∀ x ∈ c.exceptionTable.toList, False) → s.heap.size = sz → va_P D vwCl ws s.heap → va_K D vwCl (ty4 cy) s → va_D A ws → Ev A s s.heap → (∀ q, s.heap.size ≤ q → A q) → lv_has ls maxL (lv_args 0 av) → A = va_A ws sz → Q = vx_MQ below (QXN D ws sz o w1) (XX D ws sz o w1) av.toArray s mc ms (va_A ws sz) →
      (∀ (H : Heap) (locs : List Loc) (pc : Nat) (ls : Array Slot), o = 0 → va_P D vwCl w1 H → va_D A w1 → va_S A s.heap H locs → decode cc pc = .ok (.return_, 1) → W p l e rm s m av.toArray below meth c H locs mc ms Q (F0 m pc ls [])) →
      W p l e rm s m av.toArray below meth c s.heap [] 0 0 Q (F0 m 0 ls [])) : CXN l y wy rm D cy av ws sz o w1 mc ms := by
  refine vx_ofW (cc := cc) (maxL := maxL) (ret := none) hy hw ?_
  intro p e s m args below meth c s₁ B hml htab hv
  obtain ⟨rfl, hsz, hP, hK, hD0, hE⟩ := hv
  have hx := B.exec
  have hb := B.bytes
  have hr := B.returns
  have hts := atoms_spec (ws := wy) B.pre
  have hown : s.vm.findClass y.cls = some m.cls := findClass_of_methodNamed B.named
  have hlocks := B.notSynchronized
  have hD := hD0.self (sz := sz)
  have hl := lv_entry av (n := maxL) hlen
  rw [lg_entry_eq]
  refine body p e s m below meth c (va_A ws sz) _ _ hx hb hts hown hml hlocks htab hsz hP hK hD hE (fun q h => Or.inr (by rw [← hsz]; exact h)) hl rfl rfl ?_
  intro H locs pc ls hrr hP1 hD1 hS1 hdg
  exact vx_ret (W.vret hx hb hr (fun t ht hW => ⟨⟨(), rfl, hrr, by rw [ht]; exact hP1, hD1⟩, hS1.F ht⟩) hS1.2.2 hdg hlocks)
end STX
section CLX
variable {p : Program} {l : Launch} {e : Env} {R : Room} {s : State} {m : MethodId} {args : Array Value} {below : List Frame} {meth : Method} {c : Code} {H : Heap} {locs : List Loc} {cells slots : Nat} {Q : State → Prop}
variable {pc : Nat} {ls : Array Slot} {rest st0 : List Value} {a : Array Value} {A0 : Nat → Prop} {mc ms : Nat} {D : va_G} {cy : Nat → ClassId} {ws wc wr w1 : va_W}
theorem clx_n {o : Int32} (hr : vx_Run p l e R s m args below meth c H locs cells slots mc ms (F0 m pc ls st0) rest (QXN D wc H.size o w1 a) (XX D wc H.size o w1) (va_A wc H.size)) (hP : va_P D vwCl ws H) (hD : va_D A0 ws) (hp : ws.Perm (wc ++ wr)) (hS : va_S A0 s.heap H locs) (hA : ∀ q, s.heap.size ≤ q → A0 q)
    (kx : ¬ o = 0 → ∀ (q9 : Nat) (ce : Cell) (H1 : Heap) (locs1 : List Loc), H1[q9]? = some ce → ce.vm = .none → s.vm.findClass (exn o) = some ce.cls → va_P D vwCl (w1 ++ wr) H1 → va_D A0 (w1 ++ wr) → va_S A0 s.heap H1 locs1 → vx_W p l e R s m args below meth c H1 locs1 (cells + mc) (slots + ms) Q (F0 m pc ls rest) q9)
    (kk : o = 0 → ∀ (H1 : Heap) (locs1 : List Loc), va_P D vwCl (w1 ++ wr) H1 → va_D A0 (w1 ++ wr) → va_S A0 s.heap H1 locs1 → W p l e R s m args below meth c H1 locs1 (cells + mc) (slots + ms) Q (F0 m (pc + 3) ls rest)) : W p l e R s m args below meth c H locs cells slots Q (F0 m pc ls st0) := by
  have hF := fr hD hp hS hA
  refine vx_callv hr hS (fun q _ h => hF q h) hF (fun q _ h => hF q h) (fun E ce q9 u t H1 locs1 ht hvm hw hB hz hk hS1 hq hv hcl => ?_) (fun u t H1 locs1 ht hvm hw hB hz hk hS1 => ?_)
  · obtain ⟨rfl, hP1, hD1⟩ := hB
    rw [ht] at hP1
    obtain ⟨a1, a2⟩ := jn hP hD hp hk hF hP1 hD1
    exact kx hw q9 ce H1 locs1 hq hv hcl a1 a2 hS1
  · obtain ⟨hP1, hD1⟩ := hB
    rw [ht] at hP1
    obtain ⟨a1, a2⟩ := jn hP hD hp hk hF hP1 hD1
    exact kk hw H1 locs1 a1 a2 hS1
theorem clx_i {o : Int32 × Int32} (hr : vx_Run p l e R s m args below meth c H locs cells slots mc ms (F0 m pc ls st0) rest (QX D wc H.size o w1 a) (XX D wc H.size o.1 w1) (va_A wc H.size)) (hP : va_P D vwCl ws H) (hD : va_D A0 ws) (hp : ws.Perm (wc ++ wr)) (hS : va_S A0 s.heap H locs) (hA : ∀ q, s.heap.size ≤ q → A0 q)
    (kx : ¬ o.1 = 0 → ∀ (q9 : Nat) (ce : Cell) (H1 : Heap) (locs1 : List Loc), H1[q9]? = some ce → ce.vm = .none → s.vm.findClass (exn o.1) = some ce.cls → va_P D vwCl (w1 ++ wr) H1 → va_D A0 (w1 ++ wr) → va_S A0 s.heap H1 locs1 → vx_W p l e R s m args below meth c H1 locs1 (cells + mc) (slots + ms) Q (F0 m pc ls rest) q9)
    (kk : o.1 = 0 → ∀ (H1 : Heap) (locs1 : List Loc), va_P D vwCl (w1 ++ wr) H1 → va_D A0 (w1 ++ wr) → va_S A0 s.heap H1 locs1 → W p l e R s m args below meth c H1 locs1 (cells + mc) (slots + ms) Q (F0 m (pc + 3) ls (.int o.2 :: rest))) : W p l e R s m args below meth c H locs cells slots Q (F0 m pc ls st0) := by
  have hF := fr hD hp hS hA
  refine vx_calli hr hS (fun q _ h => hF q h) hF (fun q _ h => hF q h) (fun E ce q9 u t H1 locs1 ht hvm hw hB hz hk hS1 hq hv hcl => ?_) (fun r u t H1 locs1 ht hvm hw hB hz hk hS1 => ?_)
  · obtain ⟨rfl, hP1, hD1⟩ := hB
    rw [ht] at hP1
    obtain ⟨a1, a2⟩ := jn hP hD hp hk hF hP1 hD1
    exact kx hw q9 ce H1 locs1 hq hv hcl a1 a2 hS1
  · obtain ⟨hP1, hD1⟩ := hB
    rw [ht] at hP1
    obtain ⟨a1, a2⟩ := jn hP hD hp hk hF hP1 hD1
    obtain ⟨h1, h2⟩ := hw
    subst h2
    exact kk h1 H1 locs1 a1 a2 hS1
/-- 'throw new E("text")' -/
theorem thrS {cc : ByteArray} (hexec : p.tables.exec = Jvm.exec) (hb : c.code = cc) (hl : l.stackTraces = false) {o : Int32} {Qc : Array Value → State → Outcome → State → Prop} {text : String} {names : List String} {ik is ic : Nat} {own : String}
    (hown : s.vm.findClass own = some m.cls) (hownX : own = RX5) (hcls : Bundle.fit (exn o) = true) (hnames : ∀ n ∈ names, Bundle.fit n = true)
    (hk : (Cond.classLink own ik (exn o)).before args s = true) (hini : (Cond.initialized (exn o)).before args s = true) (hstr : (is, text) ∈ evS) (hat : ∀ w ∈ vx_atS own ic (exn o) names, w.before args s = true)
    (hgood : ∀ w ∈ Cond.classLink own ik (exn o) :: Cond.initialized (exn o) :: vx_atS own ic (exn o) names, vx_ot w = true)
    (hE : Ev A0 s s.heap) (hS : va_S A0 s.heap H locs) (hsize : ls.size = c.maxLocals)
    (d0 : decode cc pc = .ok (.new ik, 3)) (d3 : decode cc (pc + 3) = .ok (.dup, 1)) (d4 : decode cc (pc + 4) = .ok (.ldc is, 2)) (d6 : decode cc (pc + 6) = .ok (.invokespecial ic, 3)) (d9 : decode cc (pc + 9) = .ok (.athrow, 1))
    (htab : ∀ x ∈ c.exceptionTable.toList, False)
    (hRframes : names.length + 3 < R.frames) (hRlocals : (rest.map fun v => v.category).sum + (13 * (names.length + 1) + 43) ≤ R.locals) (hRcells : cells + 1 ≤ R.cells) (hRslots : slots + 6 ≤ R.slots) (hlocks : meth.locks = false)
    (hAe : A0 = va_A ws s.heap.size) (ho : ¬ o = 0) (hP : va_P D vwCl w1 H) (hD : va_D A0 w1) (hc : cells + 1 ≤ mc) (hs : slots + 6 ≤ ms) :
    W p l e R s m args below meth c H locs cells slots (vx_MQ below Qc (XX D ws s.heap.size o w1) args s mc ms (va_A ws s.heap.size)) (F0 m pc ls rest) := by
  obtain ⟨hU, hN, -, -, -, hR, -⟩ := hE
  obtain ⟨sa, hsa⟩ := hR (is, text) hstr
  subst hownX
  exact vx_throwS hexec hb hl hown hcls hnames hk hini hsa hat hgood hU hN hS hsize d0 d3 d4 d6 d9 (fun x hx => (htab x hx).elim) hRframes hRlocals hRcells hRslots hlocks (fun t _ hz hk2 => XX_of hAe ho hP hD hS hz hk2) (fun z hz => by rw [← hAe]; exact hS.2.2 z hz) hc hs
theorem thrSW {cc : ByteArray} (hexec : p.tables.exec = Jvm.exec) (hb : c.code = cc) (hl : l.stackTraces = false) {o : Int32} {Qc : Array Value → State → Outcome → State → Prop} {text : String} {names : List String} {ik is ic : Nat} {own : String}
    (hown : s.vm.findClass own = some m.cls) (hownX : own = RX5) (hcls : Bundle.fit (exn o) = true) (hnames : ∀ n ∈ names, Bundle.fit n = true)
    (hk : (Cond.classLink own ik (exn o)).before args s = true) (hini : (Cond.initialized (exn o)).before args s = true) (hstr : (is, text) ∈ evS) (hat : ∀ w ∈ vx_atS own ic (exn o) names, w.before args s = true)
    (hgood : ∀ w ∈ Cond.classLink own ik (exn o) :: Cond.initialized (exn o) :: vx_atS own ic (exn o) names, vx_ot w = true)
    (hE : Ev A0 s s.heap) (hS : va_S A0 s.heap H locs) (hsize : ls.size = c.maxLocals)
    (d0 : decode cc pc = .ok (.new ik, 3)) (d3 : decode cc (pc + 3) = .ok (.dup, 1)) (d4 : decode cc (pc + 4) = .ok (.ldc_w is, 3)) (d6 : decode cc (pc + 7) = .ok (.invokespecial ic, 3)) (d9 : decode cc (pc + 10) = .ok (.athrow, 1))
    (htab : ∀ x ∈ c.exceptionTable.toList, False)
    (hRframes : names.length + 3 < R.frames) (hRlocals : (rest.map fun v => v.category).sum + (13 * (names.length + 1) + 43) ≤ R.locals) (hRcells : cells + 1 ≤ R.cells) (hRslots : slots + 6 ≤ R.slots) (hlocks : meth.locks = false)
    (hAe : A0 = va_A ws s.heap.size) (ho : ¬ o = 0) (hP : va_P D vwCl w1 H) (hD : va_D A0 w1) (hc : cells + 1 ≤ mc) (hs : slots + 6 ≤ ms) :
    W p l e R s m args below meth c H locs cells slots (vx_MQ below Qc (XX D ws s.heap.size o w1) args s mc ms (va_A ws s.heap.size)) (F0 m pc ls rest) := by
  obtain ⟨hU, hN, -, -, -, hR, -⟩ := hE
  obtain ⟨sa, hsa⟩ := hR (is, text) hstr
  subst hownX
  exact vx_throwSW hexec hb hl hown hcls hnames hk hini hsa hat hgood hU hN hS hsize d0 d3 d4 d6 d9 (fun x hx => (htab x hx).elim) hRframes hRlocals hRcells hRslots hlocks (fun t _ hz hk2 => XX_of hAe ho hP hD hS hz hk2) (fun z hz => by rw [← hAe]; exact hS.2.2 z hz) hc hs
end CLX
theorem nogood_5 : ∀ w ∈ (vx_atS RX5 45 "java/lang/IllegalArgumentException" ["java/lang/RuntimeException", "java/lang/Exception"]).filter (fun w => !goodWord w), w ∈ evB := by decide +kernel
theorem nogood_6 : ∀ w ∈ (vx_atS RX5 56 "java/lang/IllegalStateException" ["java/lang/RuntimeException", "java/lang/Exception"]).filter (fun w => !goodWord w), w ∈ evB := by decide +kernel
theorem nogood_9 : ∀ w ∈ (vx_atS RX5 269 "java/lang/IndexOutOfBoundsException" ["java/lang/RuntimeException", "java/lang/Exception"]).filter (fun w => !goodWord w), w ∈ evB := by decide +kernel
theorem gw_5 : ∀ w ∈ Cond.classLink RX5 41 "java/lang/IllegalArgumentException" :: Cond.initialized "java/lang/IllegalArgumentException" :: vx_atS RX5 45 "java/lang/IllegalArgumentException" ["java/lang/RuntimeException", "java/lang/Exception"], vx_ot w = true := by decide +kernel
theorem gw_6 : ∀ w ∈ Cond.classLink RX5 52 "java/lang/IllegalStateException" :: Cond.initialized "java/lang/IllegalStateException" :: vx_atS RX5 56 "java/lang/IllegalStateException" ["java/lang/RuntimeException", "java/lang/Exception"], vx_ot w = true := by decide +kernel
theorem gw_9 : ∀ w ∈ Cond.classLink RX5 265 "java/lang/IndexOutOfBoundsException" :: Cond.initialized "java/lang/IndexOutOfBoundsException" :: vx_atS RX5 269 "java/lang/IndexOutOfBoundsException" ["java/lang/RuntimeException", "java/lang/Exception"], vx_ot w = true := by decide +kernel
theorem exn_1 : exn (-9999001) = "java/lang/IndexOutOfBoundsException" := if_pos rfl
theorem exn_2 : exn (-9999002) = "java/lang/IllegalArgumentException" := by unfold exn; rw [if_neg (by decide), if_pos rfl]
theorem exn_3 : exn (-9999003) = "java/lang/IllegalStateException" := by unfold exn; rw [if_neg (by decide), if_neg (by decide)]
