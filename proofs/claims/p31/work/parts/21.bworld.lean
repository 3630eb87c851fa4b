/-! ===== the whole object ===== -/
/-- text, state, trial, two slots, history, saved -/
abbrev BV : Type := RV × SV × SV × SV × SV × HV × (Nat → Int32)
abbrev AD : Type := Nat → Nat → Nat → Nat
def cE (cy : Nat → ClassId) (ad : AD) (sv : Nat → Int32) : va_W :=
  [(ad 0 0 0, .inr (4, [.ref (ad 0 1 0), .ref (ad 1 0 0), .ref (ad 2 0 0), .ref (ad 0 2 0), .ref (ad 0 0 1), .ref (ad 0 0 2)])),
   (ad 0 0 1, .inl (cy 3, 2, .inr (.inr (.inr (.inr (fun k => if k = 0 then some (ad 3 0 0) else some (ad 4 0 0))))))), (ad 0 0 2, .inl (cy 1, 2, .inl sv))]
def bB (cy : Nat → ClassId) (ad : AD) (V : BV) : List va_W := [cE cy ad V.2.2.2.2.2.2, cT cy (ad 0 1) V.1, cS cy (ad 1) V.2.1, cS cy (ad 2) V.2.2.1, cS cy (ad 3) V.2.2.2.1, cS cy (ad 4) V.2.2.2.2.1, cH cy (ad 0 2) (fun i => ad (i + 5)) V.2.2.2.2.2.1]
def wB (cy : Nat → ClassId) (ad : AD) (V : BV) : va_W := (bB cy ad V).flatten
section THR
variable {p : Program} {l : Launch} {e : Env} {R : Room} {s : State} {m : MethodId} {args : Array Value} {below : List Frame} {meth : Method} {c : Code} {H : Heap} {locs : List Loc} {cells slots : Nat}
variable {pc : Nat} {ls : Array Slot} {rest : List Value} {A0 : Nat → Prop} {mc ms : Nat} {D : va_G} {ws w1 : va_W} {cc : ByteArray} {o : Int32} {Qc : Array Value → State → Outcome → State → Prop} {text : String} {is : Nat}
theorem thr_2 (hexec : p.tables.exec = Jvm.exec) (hb : c.code = cc) (hl : l.stackTraces = false) (hown : s.vm.findClass RX5 = some m.cls)
    (hk : (Cond.classLink RX5 41 "java/lang/IllegalArgumentException").before args s = true) (hini : (Cond.initialized "java/lang/IllegalArgumentException").before args s = true) (hat : ∀ w ∈ (vx_atS RX5 45 "java/lang/IllegalArgumentException" ["java/lang/RuntimeException", "java/lang/Exception"]).filter goodWord, w.before args s = true)
    (hstr : (is, text) ∈ evS) (hE : Ev A0 s s.heap) (hS : va_S A0 s.heap H locs) (hsize : ls.size = c.maxLocals)
    (d0 : decode cc pc = .ok (.new 41, 3)) (d3 : decode cc (pc + 3) = .ok (.dup, 1)) (d4 : decode cc (pc + 4) = .ok (.ldc is, 2)) (d6 : decode cc (pc + 6) = .ok (.invokespecial 45, 3)) (d9 : decode cc (pc + 9) = .ok (.athrow, 1))
    (htab : ∀ x ∈ c.exceptionTable.toList, False) (hRframes : 5 < R.frames) (hRlocals : (rest.map fun v => v.category).sum + 82 ≤ R.locals) (hRcells : cells + 1 ≤ R.cells) (hRslots : slots + 6 ≤ R.slots) (hlocks : meth.locks = false)
    (hAe : A0 = va_A ws s.heap.size) (ho : o = -9999002) (hP : va_P D vwCl w1 H) (hD : va_D A0 w1) (hc : cells + 1 ≤ mc) (hs : slots + 6 ≤ ms) :
    W p l e R s m args below meth c H locs cells slots (vx_MQ below Qc (XX D ws s.heap.size o w1) args s mc ms (va_A ws s.heap.size)) (F0 m pc ls rest) := by
  subst ho
  exact thrS (o := -9999002) (names := ["java/lang/RuntimeException", "java/lang/Exception"]) (text := text) hexec hb hl hown rfl (by rw [exn_2]; decide +kernel) (by decide +kernel) (by rw [exn_2]; exact hk) (by rw [exn_2]; exact hini) hstr
    (by rw [exn_2]; exact vx_hat hat nogood_5 hE.2.2.2.2.2.2.2.2.2.2.2.2.2.2.2.all) (by rw [exn_2]; exact gw_5) hE hS hsize d0 d3 d4 d6 d9 htab hRframes hRlocals hRcells hRslots hlocks hAe (by decide) hP hD hc hs
theorem thr_3 (hexec : p.tables.exec = Jvm.exec) (hb : c.code = cc) (hl : l.stackTraces = false) (hown : s.vm.findClass RX5 = some m.cls)
    (hk : (Cond.classLink RX5 52 "java/lang/IllegalStateException").before args s = true) (hini : (Cond.initialized "java/lang/IllegalStateException").before args s = true) (hat : ∀ w ∈ (vx_atS RX5 56 "java/lang/IllegalStateException" ["java/lang/RuntimeException", "java/lang/Exception"]).filter goodWord, w.before args s = true)
    (hstr : (is, text) ∈ evS) (hE : Ev A0 s s.heap) (hS : va_S A0 s.heap H locs) (hsize : ls.size = c.maxLocals)
    (d0 : decode cc pc = .ok (.new 52, 3)) (d3 : decode cc (pc + 3) = .ok (.dup, 1)) (d4 : decode cc (pc + 4) = .ok (.ldc is, 2)) (d6 : decode cc (pc + 6) = .ok (.invokespecial 56, 3)) (d9 : decode cc (pc + 9) = .ok (.athrow, 1))
    (htab : ∀ x ∈ c.exceptionTable.toList, False) (hRframes : 5 < R.frames) (hRlocals : (rest.map fun v => v.category).sum + 82 ≤ R.locals) (hRcells : cells + 1 ≤ R.cells) (hRslots : slots + 6 ≤ R.slots) (hlocks : meth.locks = false)
    (hAe : A0 = va_A ws s.heap.size) (ho : o = -9999003) (hP : va_P D vwCl w1 H) (hD : va_D A0 w1) (hc : cells + 1 ≤ mc) (hs : slots + 6 ≤ ms) :
    W p l e R s m args below meth c H locs cells slots (vx_MQ below Qc (XX D ws s.heap.size o w1) args s mc ms (va_A ws s.heap.size)) (F0 m pc ls rest) := by
  subst ho
  exact thrS (o := -9999003) (names := ["java/lang/RuntimeException", "java/lang/Exception"]) (text := text) hexec hb hl hown rfl (by rw [exn_3]; decide +kernel) (by decide +kernel) (by rw [exn_3]; exact hk) (by rw [exn_3]; exact hini) hstr
    (by rw [exn_3]; exact vx_hat hat nogood_6 hE.2.2.2.2.2.2.2.2.2.2.2.2.2.2.2.all) (by rw [exn_3]; exact gw_6) hE hS hsize d0 d3 d4 d6 d9 htab hRframes hRlocals hRcells hRslots hlocks hAe (by decide) hP hD hc hs
theorem thr_1 (hexec : p.tables.exec = Jvm.exec) (hb : c.code = cc) (hl : l.stackTraces = false) (hown : s.vm.findClass RX5 = some m.cls)
    (hk : (Cond.classLink RX5 265 "java/lang/IndexOutOfBoundsException").before args s = true) (hini : (Cond.initialized "java/lang/IndexOutOfBoundsException").before args s = true) (hat : ∀ w ∈ (vx_atS RX5 269 "java/lang/IndexOutOfBoundsException" ["java/lang/RuntimeException", "java/lang/Exception"]).filter goodWord, w.before args s = true)
    (hstr : (is, text) ∈ evS) (hE : Ev A0 s s.heap) (hS : va_S A0 s.heap H locs) (hsize : ls.size = c.maxLocals)
    (d0 : decode cc pc = .ok (.new 265, 3)) (d3 : decode cc (pc + 3) = .ok (.dup, 1)) (d4 : decode cc (pc + 4) = .ok (.ldc_w is, 3)) (d6 : decode cc (pc + 7) = .ok (.invokespecial 269, 3)) (d9 : decode cc (pc + 10) = .ok (.athrow, 1))
    (htab : ∀ x ∈ c.exceptionTable.toList, False) (hRframes : 5 < R.frames) (hRlocals : (rest.map fun v => v.category).sum + 82 ≤ R.locals) (hRcells : cells + 1 ≤ R.cells) (hRslots : slots + 6 ≤ R.slots) (hlocks : meth.locks = false)
    (hAe : A0 = va_A ws s.heap.size) (ho : o = -9999001) (hP : va_P D vwCl w1 H) (hD : va_D A0 w1) (hc : cells + 1 ≤ mc) (hs : slots + 6 ≤ ms) :
    W p l e R s m args below meth c H locs cells slots (vx_MQ below Qc (XX D ws s.heap.size o w1) args s mc ms (va_A ws s.heap.size)) (F0 m pc ls rest) := by
  subst ho
  exact thrSW (o := -9999001) (names := ["java/lang/RuntimeException", "java/lang/Exception"]) (text := text) hexec hb hl hown rfl (by rw [exn_1]; decide +kernel) (by decide +kernel) (by rw [exn_1]; exact hk) (by rw [exn_1]; exact hini) hstr
    (by rw [exn_1]; exact vx_hat hat nogood_9 hE.2.2.2.2.2.2.2.2.2.2.2.2.2.2.2.all) (by rw [exn_1]; exact gw_9) hE hS hsize d0 d3 d4 d6 d9 htab hRframes hRlocals hRcells hRslots hlocks hAe (by decide) hP hD hc hs
end THR
