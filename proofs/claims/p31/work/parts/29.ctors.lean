/-! ===== constructors ===== -/
/-- the end of a constructor: its cells are named there -/
def RsE {ι : Type} (D : va_G) (ws : va_W) (sz : Nat) (post : ι → Prop) (w1 : ι → va_W) : Array Value → State → Outcome → State → Prop := va_Qv post (fun u t => BW D ws sz (w1 u) t) (va_A ws sz)
def CE {ι : Type} (l : Launch) (y : MethodName) (wy : List Cond) (rm : Room) (D : va_G) (cy : Nat → ClassId) (av : List Value) (ws : va_W) (sz : Nat) (post : ι → Prop) (w1 : ι → va_W) (mc ms : Nat) : Prop := Met l y wy rm (PU D cy av ws sz) (RsE D ws sz post w1) mc ms (va_A ws sz)
section CLE
variable {p : Program} {l : Launch} {e : Env} {R : Room} {s : State} {m : MethodId} {args : Array Value} {below : List Frame} {meth : Method} {c : Code} {H : Heap} {locs : List Loc} {cells slots : Nat} {Q : State → Prop}
variable {pc : Nat} {ls : Array Slot} {rest st0 : List Value} {a : Array Value} {A0 : Nat → Prop} {mc ms : Nat} {D : va_G} {cy : Nat → ClassId} {ws wc wr : va_W} {ι : Type} {post : ι → Prop} {w1 : ι → va_W}
theorem cl_e (hr : va_Run p l e R s m args below meth c H locs cells slots mc ms (F0 m pc ls st0) rest (RsE D wc H.size post w1 a) (va_A wc H.size)) (hP : va_P D vwCl ws H) (hD : va_D A0 ws) (hp : ws.Perm (wc ++ wr)) (hS : va_S A0 s.heap H locs) (hA : ∀ q, s.heap.size ≤ q → A0 q)
    (kk : ∀ (u : ι) (H1 : Heap) (locs1 : List Loc), post u → va_P D vwCl (w1 u ++ wr) H1 → va_D A0 (w1 u ++ wr) → va_S A0 s.heap H1 locs1 → W p l e R s m args below meth c H1 locs1 (cells + mc) (slots + ms) Q (F0 m (pc + 3) ls rest)) : W p l e R s m args below meth c H locs cells slots Q (F0 m pc ls st0) := by
  have hF := fr hD hp hS hA
  refine va_callv hr hS (fun q _ h => hF q h) hF (fun u t H1 locs1 ht hvm hw hB hz hk hS1 => ?_)
  obtain ⟨hP1, hD1⟩ := hB
  rw [ht] at hP1
  obtain ⟨a1, a2⟩ := jn hP hD hp hk hF hP1 hD1
  exact kk u H1 locs1 hw a1 a2 hS1
end CLE
section STARTE
variable {l : Launch} {y : MethodName} {wy ws' : List Cond} {rm : Room} {D : va_G} {cy : Nat → ClassId} {av : List Value} {ws : va_W} {sz mc ms : Nat} {cc : ByteArray} {maxL : Nat} {ι : Type} {post : ι → Prop} {w1 : ι → va_W}
theorem st_e (hy : plainName y.cls = true) (hy2 : y.name = "<init>") (hw : wy = Cond.code y cc maxL none :: ws') (hlen : (lg_sl av).length ≤ maxL)
    (body : ∀ (p : Program) (e : Env) (s : State) (m : MethodId) (below : List Frame) (meth : Method) (c : Code) (A : Nat → Prop) (Q : State → Prop) (ls : Array Slot), p.tables.exec = Jvm.exec → c.code = cc → (∀ w ∈ wy, w.before av.toArray s = true) → s.vm.findClass y.cls = some m.cls → c.maxLocals = maxL → meth.locks = false → meth.name = "<init>" → s.heap.size = sz → va_P D vwCl ws s.heap → va_K D vwCl (ty4 cy) s → va_D A ws → Ev A s s.heap → (∀ q, s.heap.size ≤ q → A q) → lv_has ls maxL (lv_args 0 av) →
      (∀ (u : ι) (H : Heap) (locs : List Loc) (pc : Nat) (ls : Array Slot), post u → va_P D vwCl (w1 u) H → va_D A (w1 u) → va_S A s.heap H locs → decode cc pc = .ok (.return_, 1) → W p l e rm s m av.toArray below meth c H locs mc ms Q (F0 m pc ls [])) →
      W p l e rm s m av.toArray below meth c s.heap [] 0 0 Q (F0 m 0 ls [])) : CE l y wy rm D cy av ws sz post w1 mc ms := by
  refine Met.ofW (cc := cc) (maxL := maxL) (ret := none) hy hw ?_
  intro p e s m args below meth c s₁ B hml hv
  obtain ⟨rfl, hsz, hP, hK, hD0, hE⟩ := hv
  have hx := B.exec
  have hb := B.bytes
  have hr := B.returns
  have hts := atoms_spec (ws := wy) B.pre
  have hown : s.vm.findClass y.cls = some m.cls := findClass_of_methodNamed B.named
  have hlocks := B.notSynchronized
  have hin : meth.name = "<init>" := (name_of_methodNamed B.named B.method).1.trans hy2
  have hD := hD0.self (sz := sz)
  have hl := lv_entry av (n := maxL) hlen
  rw [lg_entry_eq]
  refine body p e s m below meth c (va_A ws sz) _ _ hx hb hts hown hml hlocks hin hsz hP hK hD hE (fun q h => Or.inr (by rw [← hsz]; exact h)) hl ?_
  intro u H locs pc ls hu hP1 hD1 hS1 hdg
  exact W.vret hx hb hr (fun t ht hW => ⟨⟨u, rfl, hu, by rw [ht]; exact hP1, hD1⟩, hS1.F ht⟩) hS1.2.2 hdg hlocks
end STARTE
theorem cA_i {D : va_G} {cy : Nat → ClassId} {s : State} {cA : ClassId} (h : va_K D vwCl (ty4 cy ++ [(cA, .int)]) s) : cA = cy 0 := by
  have h1 : s.vm.findClass ("[" ++ FieldType.int.toString) = some cA := (h.2 4 _ rfl).2
  have h2 : s.vm.findClass ("[" ++ FieldType.int.toString) = some (cy 0) := (h.2 0 _ rfl).2
  exact Option.some.inj (h1.symm.trans h2)
theorem cA_z {D : va_G} {cy : Nat → ClassId} {s : State} {cA : ClassId} (h : va_K D vwCl (ty4 cy ++ [(cA, .boolean)]) s) : cA = cy 1 := by
  have h1 : s.vm.findClass ("[" ++ FieldType.boolean.toString) = some cA := (h.2 4 _ rfl).2
  have h2 : s.vm.findClass ("[" ++ FieldType.boolean.toString) = some (cy 1) := (h.2 1 _ rfl).2
  exact Option.some.inj (h1.symm.trans h2)
theorem cA_d {D : va_G} {cy : Nat → ClassId} {s : State} {cA : ClassId} (h : va_K D vwCl (ty4 cy ++ [(cA, .object RX0)]) s) : cA = cy 2 := by
  obtain ⟨_, _, _, _, _, h1⟩ := (h.2 4 _ rfl).2
  obtain ⟨_, _, _, _, _, h2⟩ := (h.2 2 _ rfl).2
  exact Option.some.inj (h1.symm.trans h2)
theorem cA_s {D : va_G} {cy : Nat → ClassId} {s : State} {cA : ClassId} (h : va_K D vwCl (ty4 cy ++ [(cA, .object RX3)]) s) : cA = cy 3 := by
  obtain ⟨_, _, _, _, _, h1⟩ := (h.2 4 _ rfl).2
  obtain ⟨_, _, _, _, _, h2⟩ := (h.2 3 _ rfl).2
  exact Option.some.inj (h1.symm.trans h2)
theorem vP_rowq {D : va_G} {ws : va_W} {H : Heap} (hP : va_P D vwCl ws H) (k : Nat) {a : Nat} {cA : ClassId} {n : Nat} {f g : Nat → Option Nat} (hk : ws[k]? = some (a, .inl (cA, n, .inr (.inr (.inr (.inr f)))))) (h : ∀ j, j < n → f j = g j) : va_P D vwCl (ws.set k (a, .inl (cA, n, .inr (.inr (.inr (.inr g)))))) H := by
  have hl := (List.getElem?_eq_some_iff.mp hk).1
  intro i q hi
  by_cases hik : i = k
  · subst hik
    rw [List.getElem?_set_self hl] at hi
    cases hi
    have := hP i _ hk
    show H[a]? = some (vp_cell cA (n, .inr (.inr (.inr (.inr g)))))
    rw [vp_cell_q, ← arrV_cong cA n (fun j => va_rf (f j)) (fun j => va_rf (g j)) (fun j hj => by rw [h j hj]), ← vp_cell_q]
    exact this
  · rw [List.getElem?_set_ne (Ne.symm hik)] at hi
    exact hP i q hi
theorem vD_rowq {A : Nat → Prop} {ws : va_W} (hD : va_D A ws) (k : Nat) {a : Nat} {x y : va_E} (hk : ws[k]? = some (a, x)) : va_D A (ws.set k (a, y)) := hD.set hk
def z0 : RV := fun _ _ => 0
def l7 (a0 a1 a2 a3 a4 a5 a6 : Nat) : Nat → Nat := fun k => match k with
  | 0 => a0
  | 1 => a1
  | 2 => a2
  | 3 => a3
  | 4 => a4
  | 5 => a5
  | _ => a6
def aS (a0 a1 a2 : Nat → Nat) : Nat → Nat → Nat := fun i => match i with
  | 0 => a0
  | 1 => a1
  | _ => a2

abbrev rX0_init : Room := { frames := 1, cells := 6, slots := 285, locals := 20 }
theorem inX0_init_X0 : ∀ w ∈ u_ws RX0 TX0 8, w ∈ wsX0_init := by decide +kernel
set_option maxHeartbeats 4000000 in
set_option maxRecDepth 100000 in
theorem c_X0_init (l : Launch) (D : va_G) (cy : Nat → ClassId) (b : Nat) (sz : Nat) : CE l yX0_init wsX0_init rX0_init D cy [.ref b] [(b, .inr (0, [.null, .null, .null, .null, .null, .null, .int 0, .int 0]))] sz (fun (u : Nat → Nat) => u 0 = b) (fun u => cD cy u z0) 6 285 := by
  refine st_e (cc := cX0_init) (maxL := 1) (by decide) rfl rfl (Nat.le_of_ble_eq_true rfl) ?_
  intro pp e s m below meth c A Q ls hx hb hts hown hml hlocks hin hsz hP hK hD hE hA hl hret
  subst hsz
  have hown : s.vm.findClass RX0 = some m.cls := hown
  have hl : lv_has ls 1 [(0, .ref b)] := hl
  obtain ⟨H, hH⟩ : ∃ H, H = s.heap := ⟨_, rfl⟩
  rw [← hH] at hP ⊢
  have hS : va_S A s.heap H [] := by rw [hH]; exact va_S.rf
  obtain ⟨locs, hlo⟩ : ∃ locs : List Loc, locs = [] := ⟨_, rfl⟩
  rw [← hlo] at hS ⊢
  refine lv_aload_n hx hb dX0_init_0 rfl (lv_at hl 0 rfl) ?_
  refine W.objInit hx hb hown (hts _ (List.mem_of_getElem? (i := 1) rfl)) (hts _ (List.mem_of_getElem? (i := 2) rfl)) (hts _ (List.mem_of_getElem? (i := 3) rfl)) rfl (by rw [hml]; exact hl.1) rfl dX0_init_1 (Nat.le_of_ble_eq_true rfl) (Nat.le_of_ble_eq_true rfl) ?_
  refine W.eq (g2 := F0 m 4 ls []) rfl ?_
  refine lv_aload_n hx hb dX0_init_4 rfl (lv_at hl 0 rfl) ?_
  refine lv_iconst (v := 3) hx hb dX0_init_5 (by decide) ?_
  refine va_newa (atype := .int) (ty := .int) (a0 := (3, .inl (fun _ => 0))) hx hb (hts _ (List.mem_of_getElem? (i := 4) rfl)) rfl hK hP hD hS hA (fun _ => rfl) (by decide) (by decide) (by decide) (Nat.le_of_ble_eq_true rfl) (Nat.le_of_ble_eq_true rfl) dX0_init_6 (fun q1 cA H hKn hP hD hS => ?_)
  have hcA := cA_i hKn
  subst hcA
  clear hKn
  have hP : va_P D vwCl ([(b, .inr (0, [.null, .null, .null, .null, .null, .null, .int 0, .int 0])), (q1, .inl (cy 0, 3, .inl (fun _ => (0 : Int32))))]) H := hP
  have hD : va_D A ([(b, .inr (0, [.null, .null, .null, .null, .null, .null, .int 0, .int 0])), (q1, .inl (cy 0, 3, .inl (fun _ => (0 : Int32))))]) := hD
  refine va_putF (D := D) (ci := 0) (v := .ref q1) (ty := tyX0 0) (C := RX0) (T := TX0) (N := 8) hx hb hts inX0_init_X0 tyX0 tyX0_ok nmX0 hown hK hP hD hS 0 rfl rfl 0 (by decide) (hts _ (List.mem_of_getElem? (i := 5) rfl)) (fun _ h9 => h9) rfl hin rfl (by decide +kernel) rfl rfl (Nat.le_of_ble_eq_true rfl) dX0_init_8 (fun H locs hP hD hS => ?_)
  have hP : va_P D vwCl ([(b, .inr (0, [.ref q1, .null, .null, .null, .null, .null, .int 0, .int 0])), (q1, .inl (cy 0, 3, .inl (fun _ => (0 : Int32))))]) H := hP
  have hD : va_D A ([(b, .inr (0, [.ref q1, .null, .null, .null, .null, .null, .int 0, .int 0])), (q1, .inl (cy 0, 3, .inl (fun _ => (0 : Int32))))]) := hD
  refine lv_aload_n hx hb dX0_init_11 rfl (lv_at hl 0 rfl) ?_
  refine lv_bipush (v := 64) hx hb dX0_init_12 (by decide) ?_
  refine va_newa (atype := .int) (ty := .int) (a0 := (64, .inl (fun _ => 0))) hx hb (hts _ (List.mem_of_getElem? (i := 4) rfl)) rfl hK hP hD hS hA (fun _ => rfl) (by decide) (by decide) (by decide) (Nat.le_of_ble_eq_true rfl) (Nat.le_of_ble_eq_true rfl) dX0_init_14 (fun q2 cA H hKn hP hD hS => ?_)
  have hcA := cA_i hKn
  subst hcA
  clear hKn
  have hP : va_P D vwCl ([(b, .inr (0, [.ref q1, .null, .null, .null, .null, .null, .int 0, .int 0])), (q1, .inl (cy 0, 3, .inl (fun _ => (0 : Int32)))), (q2, .inl (cy 0, 64, .inl (fun _ => (0 : Int32))))]) H := hP
  have hD : va_D A ([(b, .inr (0, [.ref q1, .null, .null, .null, .null, .null, .int 0, .int 0])), (q1, .inl (cy 0, 3, .inl (fun _ => (0 : Int32)))), (q2, .inl (cy 0, 64, .inl (fun _ => (0 : Int32))))]) := hD
  refine va_putF (D := D) (ci := 0) (v := .ref q2) (ty := tyX0 1) (C := RX0) (T := TX0) (N := 8) hx hb hts inX0_init_X0 tyX0 tyX0_ok nmX0 hown hK hP hD hS 0 rfl rfl 1 (by decide) (hts _ (List.mem_of_getElem? (i := 6) rfl)) (fun _ h9 => h9) rfl hin rfl (by decide +kernel) rfl rfl (Nat.le_of_ble_eq_true rfl) dX0_init_16 (fun H locs hP hD hS => ?_)
  have hP : va_P D vwCl ([(b, .inr (0, [.ref q1, .ref q2, .null, .null, .null, .null, .int 0, .int 0])), (q1, .inl (cy 0, 3, .inl (fun _ => (0 : Int32)))), (q2, .inl (cy 0, 64, .inl (fun _ => (0 : Int32))))]) H := hP
  have hD : va_D A ([(b, .inr (0, [.ref q1, .ref q2, .null, .null, .null, .null, .int 0, .int 0])), (q1, .inl (cy 0, 3, .inl (fun _ => (0 : Int32)))), (q2, .inl (cy 0, 64, .inl (fun _ => (0 : Int32))))]) := hD
  refine lv_aload_n hx hb dX0_init_19 rfl (lv_at hl 0 rfl) ?_
  refine lv_bipush (v := 64) hx hb dX0_init_20 (by decide) ?_
  refine va_newa (atype := .int) (ty := .int) (a0 := (64, .inl (fun _ => 0))) hx hb (hts _ (List.mem_of_getElem? (i := 4) rfl)) rfl hK hP hD hS hA (fun _ => rfl) (by decide) (by decide) (by decide) (Nat.le_of_ble_eq_true rfl) (Nat.le_of_ble_eq_true rfl) dX0_init_22 (fun q3 cA H hKn hP hD hS => ?_)
  have hcA := cA_i hKn
  subst hcA
  clear hKn
  have hP : va_P D vwCl ([(b, .inr (0, [.ref q1, .ref q2, .null, .null, .null, .null, .int 0, .int 0])), (q1, .inl (cy 0, 3, .inl (fun _ => (0 : Int32)))), (q2, .inl (cy 0, 64, .inl (fun _ => (0 : Int32)))), (q3, .inl (cy 0, 64, .inl (fun _ => (0 : Int32))))]) H := hP
  have hD : va_D A ([(b, .inr (0, [.ref q1, .ref q2, .null, .null, .null, .null, .int 0, .int 0])), (q1, .inl (cy 0, 3, .inl (fun _ => (0 : Int32)))), (q2, .inl (cy 0, 64, .inl (fun _ => (0 : Int32)))), (q3, .inl (cy 0, 64, .inl (fun _ => (0 : Int32))))]) := hD
  refine va_putF (D := D) (ci := 0) (v := .ref q3) (ty := tyX0 2) (C := RX0) (T := TX0) (N := 8) hx hb hts inX0_init_X0 tyX0 tyX0_ok nmX0 hown hK hP hD hS 0 rfl rfl 2 (by decide) (hts _ (List.mem_of_getElem? (i := 7) rfl)) (fun _ h9 => h9) rfl hin rfl (by decide +kernel) rfl rfl (Nat.le_of_ble_eq_true rfl) dX0_init_24 (fun H locs hP hD hS => ?_)
  have hP : va_P D vwCl ([(b, .inr (0, [.ref q1, .ref q2, .ref q3, .null, .null, .null, .int 0, .int 0])), (q1, .inl (cy 0, 3, .inl (fun _ => (0 : Int32)))), (q2, .inl (cy 0, 64, .inl (fun _ => (0 : Int32)))), (q3, .inl (cy 0, 64, .inl (fun _ => (0 : Int32))))]) H := hP
  have hD : va_D A ([(b, .inr (0, [.ref q1, .ref q2, .ref q3, .null, .null, .null, .int 0, .int 0])), (q1, .inl (cy 0, 3, .inl (fun _ => (0 : Int32)))), (q2, .inl (cy 0, 64, .inl (fun _ => (0 : Int32)))), (q3, .inl (cy 0, 64, .inl (fun _ => (0 : Int32))))]) := hD
  refine lv_aload_n hx hb dX0_init_27 rfl (lv_at hl 0 rfl) ?_
  refine lv_bipush (v := 64) hx hb dX0_init_28 (by decide) ?_
  refine va_newa (atype := .int) (ty := .int) (a0 := (64, .inl (fun _ => 0))) hx hb (hts _ (List.mem_of_getElem? (i := 4) rfl)) rfl hK hP hD hS hA (fun _ => rfl) (by decide) (by decide) (by decide) (Nat.le_of_ble_eq_true rfl) (Nat.le_of_ble_eq_true rfl) dX0_init_30 (fun q4 cA H hKn hP hD hS => ?_)
  have hcA := cA_i hKn
  subst hcA
  clear hKn
  have hP : va_P D vwCl ([(b, .inr (0, [.ref q1, .ref q2, .ref q3, .null, .null, .null, .int 0, .int 0])), (q1, .inl (cy 0, 3, .inl (fun _ => (0 : Int32)))), (q2, .inl (cy 0, 64, .inl (fun _ => (0 : Int32)))), (q3, .inl (cy 0, 64, .inl (fun _ => (0 : Int32)))), (q4, .inl (cy 0, 64, .inl (fun _ => (0 : Int32))))]) H := hP
  have hD : va_D A ([(b, .inr (0, [.ref q1, .ref q2, .ref q3, .null, .null, .null, .int 0, .int 0])), (q1, .inl (cy 0, 3, .inl (fun _ => (0 : Int32)))), (q2, .inl (cy 0, 64, .inl (fun _ => (0 : Int32)))), (q3, .inl (cy 0, 64, .inl (fun _ => (0 : Int32)))), (q4, .inl (cy 0, 64, .inl (fun _ => (0 : Int32))))]) := hD
  refine va_putF (D := D) (ci := 0) (v := .ref q4) (ty := tyX0 3) (C := RX0) (T := TX0) (N := 8) hx hb hts inX0_init_X0 tyX0 tyX0_ok nmX0 hown hK hP hD hS 0 rfl rfl 3 (by decide) (hts _ (List.mem_of_getElem? (i := 8) rfl)) (fun _ h9 => h9) rfl hin rfl (by decide +kernel) rfl rfl (Nat.le_of_ble_eq_true rfl) dX0_init_32 (fun H locs hP hD hS => ?_)
  have hP : va_P D vwCl ([(b, .inr (0, [.ref q1, .ref q2, .ref q3, .ref q4, .null, .null, .int 0, .int 0])), (q1, .inl (cy 0, 3, .inl (fun _ => (0 : Int32)))), (q2, .inl (cy 0, 64, .inl (fun _ => (0 : Int32)))), (q3, .inl (cy 0, 64, .inl (fun _ => (0 : Int32)))), (q4, .inl (cy 0, 64, .inl (fun _ => (0 : Int32))))]) H := hP
  have hD : va_D A ([(b, .inr (0, [.ref q1, .ref q2, .ref q3, .ref q4, .null, .null, .int 0, .int 0])), (q1, .inl (cy 0, 3, .inl (fun _ => (0 : Int32)))), (q2, .inl (cy 0, 64, .inl (fun _ => (0 : Int32)))), (q3, .inl (cy 0, 64, .inl (fun _ => (0 : Int32)))), (q4, .inl (cy 0, 64, .inl (fun _ => (0 : Int32))))]) := hD
  refine lv_aload_n hx hb dX0_init_35 rfl (lv_at hl 0 rfl) ?_
  refine lv_bipush (v := 64) hx hb dX0_init_36 (by decide) ?_
  refine va_newa (atype := .int) (ty := .int) (a0 := (64, .inl (fun _ => 0))) hx hb (hts _ (List.mem_of_getElem? (i := 4) rfl)) rfl hK hP hD hS hA (fun _ => rfl) (by decide) (by decide) (by decide) (Nat.le_of_ble_eq_true rfl) (Nat.le_of_ble_eq_true rfl) dX0_init_38 (fun q5 cA H hKn hP hD hS => ?_)
  have hcA := cA_i hKn
  subst hcA
  clear hKn
  have hP : va_P D vwCl ([(b, .inr (0, [.ref q1, .ref q2, .ref q3, .ref q4, .null, .null, .int 0, .int 0])), (q1, .inl (cy 0, 3, .inl (fun _ => (0 : Int32)))), (q2, .inl (cy 0, 64, .inl (fun _ => (0 : Int32)))), (q3, .inl (cy 0, 64, .inl (fun _ => (0 : Int32)))), (q4, .inl (cy 0, 64, .inl (fun _ => (0 : Int32)))), (q5, .inl (cy 0, 64, .inl (fun _ => (0 : Int32))))]) H := hP
  have hD : va_D A ([(b, .inr (0, [.ref q1, .ref q2, .ref q3, .ref q4, .null, .null, .int 0, .int 0])), (q1, .inl (cy 0, 3, .inl (fun _ => (0 : Int32)))), (q2, .inl (cy 0, 64, .inl (fun _ => (0 : Int32)))), (q3, .inl (cy 0, 64, .inl (fun _ => (0 : Int32)))), (q4, .inl (cy 0, 64, .inl (fun _ => (0 : Int32)))), (q5, .inl (cy 0, 64, .inl (fun _ => (0 : Int32))))]) := hD
  refine va_putF (D := D) (ci := 0) (v := .ref q5) (ty := tyX0 4) (C := RX0) (T := TX0) (N := 8) hx hb hts inX0_init_X0 tyX0 tyX0_ok nmX0 hown hK hP hD hS 0 rfl rfl 4 (by decide) (hts _ (List.mem_of_getElem? (i := 9) rfl)) (fun _ h9 => h9) rfl hin rfl (by decide +kernel) rfl rfl (Nat.le_of_ble_eq_true rfl) dX0_init_40 (fun H locs hP hD hS => ?_)
  have hP : va_P D vwCl ([(b, .inr (0, [.ref q1, .ref q2, .ref q3, .ref q4, .ref q5, .null, .int 0, .int 0])), (q1, .inl (cy 0, 3, .inl (fun _ => (0 : Int32)))), (q2, .inl (cy 0, 64, .inl (fun _ => (0 : Int32)))), (q3, .inl (cy 0, 64, .inl (fun _ => (0 : Int32)))), (q4, .inl (cy 0, 64, .inl (fun _ => (0 : Int32)))), (q5, .inl (cy 0, 64, .inl (fun _ => (0 : Int32))))]) H := hP
  have hD : va_D A ([(b, .inr (0, [.ref q1, .ref q2, .ref q3, .ref q4, .ref q5, .null, .int 0, .int 0])), (q1, .inl (cy 0, 3, .inl (fun _ => (0 : Int32)))), (q2, .inl (cy 0, 64, .inl (fun _ => (0 : Int32)))), (q3, .inl (cy 0, 64, .inl (fun _ => (0 : Int32)))), (q4, .inl (cy 0, 64, .inl (fun _ => (0 : Int32)))), (q5, .inl (cy 0, 64, .inl (fun _ => (0 : Int32))))]) := hD
  refine lv_aload_n hx hb dX0_init_43 rfl (lv_at hl 0 rfl) ?_
  refine lv_bipush (v := 26) hx hb dX0_init_44 (by decide) ?_
  refine va_newa (atype := .int) (ty := .int) (a0 := (26, .inl (fun _ => 0))) hx hb (hts _ (List.mem_of_getElem? (i := 4) rfl)) rfl hK hP hD hS hA (fun _ => rfl) (by decide) (by decide) (by decide) (Nat.le_of_ble_eq_true rfl) (Nat.le_of_ble_eq_true rfl) dX0_init_46 (fun q6 cA H hKn hP hD hS => ?_)
  have hcA := cA_i hKn
  subst hcA
  clear hKn
  have hP : va_P D vwCl ([(b, .inr (0, [.ref q1, .ref q2, .ref q3, .ref q4, .ref q5, .null, .int 0, .int 0])), (q1, .inl (cy 0, 3, .inl (fun _ => (0 : Int32)))), (q2, .inl (cy 0, 64, .inl (fun _ => (0 : Int32)))), (q3, .inl (cy 0, 64, .inl (fun _ => (0 : Int32)))), (q4, .inl (cy 0, 64, .inl (fun _ => (0 : Int32)))), (q5, .inl (cy 0, 64, .inl (fun _ => (0 : Int32)))), (q6, .inl (cy 0, 26, .inl (fun _ => (0 : Int32))))]) H := hP
  have hD : va_D A ([(b, .inr (0, [.ref q1, .ref q2, .ref q3, .ref q4, .ref q5, .null, .int 0, .int 0])), (q1, .inl (cy 0, 3, .inl (fun _ => (0 : Int32)))), (q2, .inl (cy 0, 64, .inl (fun _ => (0 : Int32)))), (q3, .inl (cy 0, 64, .inl (fun _ => (0 : Int32)))), (q4, .inl (cy 0, 64, .inl (fun _ => (0 : Int32)))), (q5, .inl (cy 0, 64, .inl (fun _ => (0 : Int32)))), (q6, .inl (cy 0, 26, .inl (fun _ => (0 : Int32))))]) := hD
  refine va_putF (D := D) (ci := 0) (v := .ref q6) (ty := tyX0 5) (C := RX0) (T := TX0) (N := 8) hx hb hts inX0_init_X0 tyX0 tyX0_ok nmX0 hown hK hP hD hS 0 rfl rfl 5 (by decide) (hts _ (List.mem_of_getElem? (i := 10) rfl)) (fun _ h9 => h9) rfl hin rfl (by decide +kernel) rfl rfl (Nat.le_of_ble_eq_true rfl) dX0_init_48 (fun H locs hP hD hS => ?_)
  have hP : va_P D vwCl ([(b, .inr (0, [.ref q1, .ref q2, .ref q3, .ref q4, .ref q5, .ref q6, .int 0, .int 0])), (q1, .inl (cy 0, 3, .inl (fun _ => (0 : Int32)))), (q2, .inl (cy 0, 64, .inl (fun _ => (0 : Int32)))), (q3, .inl (cy 0, 64, .inl (fun _ => (0 : Int32)))), (q4, .inl (cy 0, 64, .inl (fun _ => (0 : Int32)))), (q5, .inl (cy 0, 64, .inl (fun _ => (0 : Int32)))), (q6, .inl (cy 0, 26, .inl (fun _ => (0 : Int32))))]) H := hP
  have hD : va_D A ([(b, .inr (0, [.ref q1, .ref q2, .ref q3, .ref q4, .ref q5, .ref q6, .int 0, .int 0])), (q1, .inl (cy 0, 3, .inl (fun _ => (0 : Int32)))), (q2, .inl (cy 0, 64, .inl (fun _ => (0 : Int32)))), (q3, .inl (cy 0, 64, .inl (fun _ => (0 : Int32)))), (q4, .inl (cy 0, 64, .inl (fun _ => (0 : Int32)))), (q5, .inl (cy 0, 64, .inl (fun _ => (0 : Int32)))), (q6, .inl (cy 0, 26, .inl (fun _ => (0 : Int32))))]) := hD
  exact hret (l7 b q1 q2 q3 q4 q5 q6) H locs _ ls rfl hP hD hS dX0_init_51

abbrev rX4_init : Room := { frames := 1, cells := 3, slots := 384, locals := 20 }
theorem inX4_init_X4 : ∀ w ∈ u_ws RX4 TX4 8, w ∈ wsX4_init := by decide +kernel
set_option maxHeartbeats 4000000 in
set_option maxRecDepth 100000 in
theorem c_X4_init (l : Launch) (D : va_G) (cy : Nat → ClassId) (b : Nat) (sz : Nat) : CE l yX4_init wsX4_init rX4_init D cy [.ref b] [(b, .inr (3, [.null, .int 0, .null, .int 0, .null, .int 0, .int 0, .int 0]))] sz (fun (u : Nat → Nat) => u 0 = b) (fun u => cT cy u z0) 3 384 := by
  refine st_e (cc := cX4_init) (maxL := 1) (by decide) rfl rfl (Nat.le_of_ble_eq_true rfl) ?_
  intro pp e s m below meth c A Q ls hx hb hts hown hml hlocks hin hsz hP hK hD hE hA hl hret
  subst hsz
  have hown : s.vm.findClass RX4 = some m.cls := hown
  have hl : lv_has ls 1 [(0, .ref b)] := hl
  obtain ⟨H, hH⟩ : ∃ H, H = s.heap := ⟨_, rfl⟩
  rw [← hH] at hP ⊢
  have hS : va_S A s.heap H [] := by rw [hH]; exact va_S.rf
  obtain ⟨locs, hlo⟩ : ∃ locs : List Loc, locs = [] := ⟨_, rfl⟩
  rw [← hlo] at hS ⊢
  refine lv_aload_n hx hb dX4_init_0 rfl (lv_at hl 0 rfl) ?_
  refine W.objInit hx hb hown (hts _ (List.mem_of_getElem? (i := 1) rfl)) (hts _ (List.mem_of_getElem? (i := 2) rfl)) (hts _ (List.mem_of_getElem? (i := 3) rfl)) rfl (by rw [hml]; exact hl.1) rfl dX4_init_1 (Nat.le_of_ble_eq_true rfl) (Nat.le_of_ble_eq_true rfl) ?_
  refine W.eq (g2 := F0 m 4 ls []) rfl ?_
  refine lv_aload_n hx hb dX4_init_4 rfl (lv_at hl 0 rfl) ?_
  refine lv_bipush (v := 80) hx hb dX4_init_5 (by decide) ?_
  refine va_newa (atype := .int) (ty := .int) (a0 := (80, .inl (fun _ => 0))) hx hb (hts _ (List.mem_of_getElem? (i := 4) rfl)) rfl hK hP hD hS hA (fun _ => rfl) (by decide) (by decide) (by decide) (Nat.le_of_ble_eq_true rfl) (Nat.le_of_ble_eq_true rfl) dX4_init_7 (fun q1 cA H hKn hP hD hS => ?_)
  have hcA := cA_i hKn
  subst hcA
  clear hKn
  have hP : va_P D vwCl ([(b, .inr (3, [.null, .int 0, .null, .int 0, .null, .int 0, .int 0, .int 0])), (q1, .inl (cy 0, 80, .inl (fun _ => (0 : Int32))))]) H := hP
  have hD : va_D A ([(b, .inr (3, [.null, .int 0, .null, .int 0, .null, .int 0, .int 0, .int 0])), (q1, .inl (cy 0, 80, .inl (fun _ => (0 : Int32))))]) := hD
  refine va_putF (D := D) (ci := 3) (v := .ref q1) (ty := tyX4 0) (C := RX4) (T := TX4) (N := 8) hx hb hts inX4_init_X4 tyX4 tyX4_ok nmX4 hown hK hP hD hS 0 rfl rfl 0 (by decide) (hts _ (List.mem_of_getElem? (i := 5) rfl)) (fun _ h9 => h9) rfl hin rfl (by decide +kernel) rfl rfl (Nat.le_of_ble_eq_true rfl) dX4_init_9 (fun H locs hP hD hS => ?_)
  have hP : va_P D vwCl ([(b, .inr (3, [.ref q1, .int 0, .null, .int 0, .null, .int 0, .int 0, .int 0])), (q1, .inl (cy 0, 80, .inl (fun _ => (0 : Int32))))]) H := hP
  have hD : va_D A ([(b, .inr (3, [.ref q1, .int 0, .null, .int 0, .null, .int 0, .int 0, .int 0])), (q1, .inl (cy 0, 80, .inl (fun _ => (0 : Int32))))]) := hD
  refine lv_aload_n hx hb dX4_init_12 rfl (lv_at hl 0 rfl) ?_
  refine lv_sipush (v := 300) hx hb dX4_init_13 (by decide) ?_
  refine va_newa (atype := .int) (ty := .int) (a0 := (300, .inl (fun _ => 0))) hx hb (hts _ (List.mem_of_getElem? (i := 4) rfl)) rfl hK hP hD hS hA (fun _ => rfl) (by decide) (by decide) (by decide) (Nat.le_of_ble_eq_true rfl) (Nat.le_of_ble_eq_true rfl) dX4_init_16 (fun q2 cA H hKn hP hD hS => ?_)
  have hcA := cA_i hKn
  subst hcA
  clear hKn
  have hP : va_P D vwCl ([(b, .inr (3, [.ref q1, .int 0, .null, .int 0, .null, .int 0, .int 0, .int 0])), (q1, .inl (cy 0, 80, .inl (fun _ => (0 : Int32)))), (q2, .inl (cy 0, 300, .inl (fun _ => (0 : Int32))))]) H := hP
  have hD : va_D A ([(b, .inr (3, [.ref q1, .int 0, .null, .int 0, .null, .int 0, .int 0, .int 0])), (q1, .inl (cy 0, 80, .inl (fun _ => (0 : Int32)))), (q2, .inl (cy 0, 300, .inl (fun _ => (0 : Int32))))]) := hD
  refine va_putF (D := D) (ci := 3) (v := .ref q2) (ty := tyX4 2) (C := RX4) (T := TX4) (N := 8) hx hb hts inX4_init_X4 tyX4 tyX4_ok nmX4 hown hK hP hD hS 0 rfl rfl 2 (by decide) (hts _ (List.mem_of_getElem? (i := 6) rfl)) (fun _ h9 => h9) rfl hin rfl (by decide +kernel) rfl rfl (Nat.le_of_ble_eq_true rfl) dX4_init_18 (fun H locs hP hD hS => ?_)
  have hP : va_P D vwCl ([(b, .inr (3, [.ref q1, .int 0, .ref q2, .int 0, .null, .int 0, .int 0, .int 0])), (q1, .inl (cy 0, 80, .inl (fun _ => (0 : Int32)))), (q2, .inl (cy 0, 300, .inl (fun _ => (0 : Int32))))]) H := hP
  have hD : va_D A ([(b, .inr (3, [.ref q1, .int 0, .ref q2, .int 0, .null, .int 0, .int 0, .int 0])), (q1, .inl (cy 0, 80, .inl (fun _ => (0 : Int32)))), (q2, .inl (cy 0, 300, .inl (fun _ => (0 : Int32))))]) := hD
  refine lv_aload_n hx hb dX4_init_21 rfl (lv_at hl 0 rfl) ?_
  refine lv_iconst (v := 4) hx hb dX4_init_22 (by decide) ?_
  refine va_newa (atype := .int) (ty := .int) (a0 := (4, .inl (fun _ => 0))) hx hb (hts _ (List.mem_of_getElem? (i := 4) rfl)) rfl hK hP hD hS hA (fun _ => rfl) (by decide) (by decide) (by decide) (Nat.le_of_ble_eq_true rfl) (Nat.le_of_ble_eq_true rfl) dX4_init_23 (fun q3 cA H hKn hP hD hS => ?_)
  have hcA := cA_i hKn
  subst hcA
  clear hKn
  have hP : va_P D vwCl ([(b, .inr (3, [.ref q1, .int 0, .ref q2, .int 0, .null, .int 0, .int 0, .int 0])), (q1, .inl (cy 0, 80, .inl (fun _ => (0 : Int32)))), (q2, .inl (cy 0, 300, .inl (fun _ => (0 : Int32)))), (q3, .inl (cy 0, 4, .inl (fun _ => (0 : Int32))))]) H := hP
  have hD : va_D A ([(b, .inr (3, [.ref q1, .int 0, .ref q2, .int 0, .null, .int 0, .int 0, .int 0])), (q1, .inl (cy 0, 80, .inl (fun _ => (0 : Int32)))), (q2, .inl (cy 0, 300, .inl (fun _ => (0 : Int32)))), (q3, .inl (cy 0, 4, .inl (fun _ => (0 : Int32))))]) := hD
  refine va_putF (D := D) (ci := 3) (v := .ref q3) (ty := tyX4 4) (C := RX4) (T := TX4) (N := 8) hx hb hts inX4_init_X4 tyX4 tyX4_ok nmX4 hown hK hP hD hS 0 rfl rfl 4 (by decide) (hts _ (List.mem_of_getElem? (i := 7) rfl)) (fun _ h9 => h9) rfl hin rfl (by decide +kernel) rfl rfl (Nat.le_of_ble_eq_true rfl) dX4_init_25 (fun H locs hP hD hS => ?_)
  have hP : va_P D vwCl ([(b, .inr (3, [.ref q1, .int 0, .ref q2, .int 0, .ref q3, .int 0, .int 0, .int 0])), (q1, .inl (cy 0, 80, .inl (fun _ => (0 : Int32)))), (q2, .inl (cy 0, 300, .inl (fun _ => (0 : Int32)))), (q3, .inl (cy 0, 4, .inl (fun _ => (0 : Int32))))]) H := hP
  have hD : va_D A ([(b, .inr (3, [.ref q1, .int 0, .ref q2, .int 0, .ref q3, .int 0, .int 0, .int 0])), (q1, .inl (cy 0, 80, .inl (fun _ => (0 : Int32)))), (q2, .inl (cy 0, 300, .inl (fun _ => (0 : Int32)))), (q3, .inl (cy 0, 4, .inl (fun _ => (0 : Int32))))]) := hD
  exact hret (l7 b q1 q2 q3 0 0 0) H locs _ ls rfl hP hD hS dX4_init_28

def v00 : SV := (mkO (upd (upd (upd (fun _ => (0 : Int32)) 0 (4 : Int32)) 1 (2 : Int32)) 2 (2 : Int32)) (z0 1) (z0 2) (z0 3) (z0 4) 0 0 0 0 0, z0, mkD (upd (upd (z0 0) 0 (3 : Int32)) 1 (4 : Int32)) (z0 1) (z0 2) (z0 3) (z0 4) (z0 5) 0 0)
/-- a state as it is made -/
def vI : SV := w_X3_beginAnew v00

abbrev rX3_init : Room := { frames := 3, cells := 20, slots := 695, locals := 65 }
theorem inX3_init_X0 : ∀ w ∈ u_ws RX0 TX0 8, w ∈ wsX3_init := by decide +kernel
theorem inX3_init_X3 : ∀ w ∈ u_ws RX3 TX3 11, w ∈ wsX3_init := by decide +kernel
set_option maxHeartbeats 4000000 in
set_option maxRecDepth 100000 in
theorem c_X3_init (l : Launch) (D : va_G) (cy : Nat → ClassId) (b : Nat) (sz : Nat) : CE l yX3_init wsX3_init rX3_init D cy [.ref b] [(b, .inr (2, [.null, .null, .null, .null, .null, .null, .int 0, .int 0, .int 0, .int 0, .int 0]))] sz (fun (u : Nat → Nat → Nat) => u 0 0 = b) (fun u => cS cy u vI) 20 695 := by
  refine st_e (cc := cX3_init) (maxL := 2) (by decide) rfl rfl (Nat.le_of_ble_eq_true rfl) ?_
  intro pp e s m below meth c A Q ls hx hb hts hown hml hlocks hin hsz hP hK hD hE hA hl hret
  subst hsz
  have hown : s.vm.findClass RX3 = some m.cls := hown
  have hl : lv_has ls 2 [(0, .ref b)] := hl
  obtain ⟨H, hH⟩ : ∃ H, H = s.heap := ⟨_, rfl⟩
  rw [← hH] at hP ⊢
  have hS : va_S A s.heap H [] := by rw [hH]; exact va_S.rf
  obtain ⟨locs, hlo⟩ : ∃ locs : List Loc, locs = [] := ⟨_, rfl⟩
  rw [← hlo] at hS ⊢
  refine lv_aload_n hx hb dX3_init_0 rfl (lv_at hl 0 rfl) ?_
  refine W.objInit hx hb hown (hts _ (List.mem_of_getElem? (i := 1) rfl)) (hts _ (List.mem_of_getElem? (i := 2) rfl)) (hts _ (List.mem_of_getElem? (i := 3) rfl)) rfl (by rw [hml]; exact hl.1) rfl dX3_init_1 (Nat.le_of_ble_eq_true rfl) (Nat.le_of_ble_eq_true rfl) ?_
  refine W.eq (g2 := F0 m 4 ls []) rfl ?_
  refine lv_aload_n hx hb dX3_init_4 rfl (lv_at hl 0 rfl) ?_
  refine lv_iconst (v := 3) hx hb dX3_init_5 (by decide) ?_
  refine va_newa (atype := .int) (ty := .int) (a0 := (3, .inl (fun _ => 0))) hx hb (hts _ (List.mem_of_getElem? (i := 4) rfl)) rfl hK hP hD hS hA (fun _ => rfl) (by decide) (by decide) (by decide) (Nat.le_of_ble_eq_true rfl) (Nat.le_of_ble_eq_true rfl) dX3_init_6 (fun q1 cA H hKn hP hD hS => ?_)
  have hcA := cA_i hKn
  subst hcA
  clear hKn
  have hP : va_P D vwCl ([(b, .inr (2, [.null, .null, .null, .null, .null, .null, .int 0, .int 0, .int 0, .int 0, .int 0])), (q1, .inl (cy 0, 3, .inl (fun _ => (0 : Int32))))]) H := hP
  have hD : va_D A ([(b, .inr (2, [.null, .null, .null, .null, .null, .null, .int 0, .int 0, .int 0, .int 0, .int 0])), (q1, .inl (cy 0, 3, .inl (fun _ => (0 : Int32))))]) := hD
  refine va_putF (D := D) (ci := 2) (v := .ref q1) (ty := tyX3 0) (C := RX3) (T := TX3) (N := 11) hx hb hts inX3_init_X3 tyX3 tyX3_ok nmX3 hown hK hP hD hS 0 rfl rfl 0 (by decide) (hts _ (List.mem_of_getElem? (i := 5) rfl)) (fun _ h9 => h9) rfl hin rfl (by decide +kernel) rfl rfl (Nat.le_of_ble_eq_true rfl) dX3_init_8 (fun H locs hP hD hS => ?_)
  have hP : va_P D vwCl ([(b, .inr (2, [.ref q1, .null, .null, .null, .null, .null, .int 0, .int 0, .int 0, .int 0, .int 0])), (q1, .inl (cy 0, 3, .inl (fun _ => (0 : Int32))))]) H := hP
  have hD : va_D A ([(b, .inr (2, [.ref q1, .null, .null, .null, .null, .null, .int 0, .int 0, .int 0, .int 0, .int 0])), (q1, .inl (cy 0, 3, .inl (fun _ => (0 : Int32))))]) := hD
  refine lv_aload_n hx hb dX3_init_11 rfl (lv_at hl 0 rfl) ?_
  refine lv_iconst (v := 2) hx hb dX3_init_12 (by decide) ?_
  refine va_newq hx hb hown (hts _ (List.mem_of_getElem? (i := 6) rfl)) hE.2.2.2.2.2.2.2.2.2.2.2.2.2.1 hK hP hD hS hA (by decide) (show ((2 : Int32)).toNatClampNeg = 2 from by decide) (by decide) (Nat.le_of_ble_eq_true rfl) (Nat.le_of_ble_eq_true rfl) dX3_init_13 (fun q2 cA H hKn hP hD hS => ?_)
  have hcA := cA_d hKn
  subst hcA
  clear hKn
  have hP : va_P D vwCl ([(b, .inr (2, [.ref q1, .null, .null, .null, .null, .null, .int 0, .int 0, .int 0, .int 0, .int 0])), (q1, .inl (cy 0, 3, .inl (fun _ => (0 : Int32)))), (q2, .inl (cy 2, 2, .inr (.inr (.inr (.inr (fun _ => none))))))]) H := hP
  have hD : va_D A ([(b, .inr (2, [.ref q1, .null, .null, .null, .null, .null, .int 0, .int 0, .int 0, .int 0, .int 0])), (q1, .inl (cy 0, 3, .inl (fun _ => (0 : Int32)))), (q2, .inl (cy 2, 2, .inr (.inr (.inr (.inr (fun _ => none))))))]) := hD
  refine va_putF (D := D) (ci := 2) (v := .ref q2) (ty := tyX3 1) (C := RX3) (T := TX3) (N := 11) hx hb hts inX3_init_X3 tyX3 tyX3_ok nmX3 hown hK hP hD hS 0 rfl rfl 1 (by decide) (hts _ (List.mem_of_getElem? (i := 7) rfl)) (fun _ h9 => h9) rfl hin rfl (by decide +kernel) rfl rfl (Nat.le_of_ble_eq_true rfl) dX3_init_16 (fun H locs hP hD hS => ?_)
  have hP : va_P D vwCl ([(b, .inr (2, [.ref q1, .ref q2, .null, .null, .null, .null, .int 0, .int 0, .int 0, .int 0, .int 0])), (q1, .inl (cy 0, 3, .inl (fun _ => (0 : Int32)))), (q2, .inl (cy 2, 2, .inr (.inr (.inr (.inr (fun _ => none))))))]) H := hP
  have hD : va_D A ([(b, .inr (2, [.ref q1, .ref q2, .null, .null, .null, .null, .int 0, .int 0, .int 0, .int 0, .int 0])), (q1, .inl (cy 0, 3, .inl (fun _ => (0 : Int32)))), (q2, .inl (cy 2, 2, .inr (.inr (.inr (.inr (fun _ => none))))))]) := hD
  refine lv_aload_n hx hb dX3_init_19 rfl (lv_at hl 0 rfl) ?_
  refine lv_bipush (v := 26) hx hb dX3_init_20 (by decide) ?_
  refine va_newa (atype := .int) (ty := .int) (a0 := (26, .inl (fun _ => 0))) hx hb (hts _ (List.mem_of_getElem? (i := 4) rfl)) rfl hK hP hD hS hA (fun _ => rfl) (by decide) (by decide) (by decide) (Nat.le_of_ble_eq_true rfl) (Nat.le_of_ble_eq_true rfl) dX3_init_22 (fun q3 cA H hKn hP hD hS => ?_)
  have hcA := cA_i hKn
  subst hcA
  clear hKn
  have hP : va_P D vwCl ([(b, .inr (2, [.ref q1, .ref q2, .null, .null, .null, .null, .int 0, .int 0, .int 0, .int 0, .int 0])), (q1, .inl (cy 0, 3, .inl (fun _ => (0 : Int32)))), (q2, .inl (cy 2, 2, .inr (.inr (.inr (.inr (fun _ => none)))))), (q3, .inl (cy 0, 26, .inl (fun _ => (0 : Int32))))]) H := hP
  have hD : va_D A ([(b, .inr (2, [.ref q1, .ref q2, .null, .null, .null, .null, .int 0, .int 0, .int 0, .int 0, .int 0])), (q1, .inl (cy 0, 3, .inl (fun _ => (0 : Int32)))), (q2, .inl (cy 2, 2, .inr (.inr (.inr (.inr (fun _ => none)))))), (q3, .inl (cy 0, 26, .inl (fun _ => (0 : Int32))))]) := hD
  refine va_putF (D := D) (ci := 2) (v := .ref q3) (ty := tyX3 2) (C := RX3) (T := TX3) (N := 11) hx hb hts inX3_init_X3 tyX3 tyX3_ok nmX3 hown hK hP hD hS 0 rfl rfl 2 (by decide) (hts _ (List.mem_of_getElem? (i := 8) rfl)) (fun _ h9 => h9) rfl hin rfl (by decide +kernel) rfl rfl (Nat.le_of_ble_eq_true rfl) dX3_init_24 (fun H locs hP hD hS => ?_)
  have hP : va_P D vwCl ([(b, .inr (2, [.ref q1, .ref q2, .ref q3, .null, .null, .null, .int 0, .int 0, .int 0, .int 0, .int 0])), (q1, .inl (cy 0, 3, .inl (fun _ => (0 : Int32)))), (q2, .inl (cy 2, 2, .inr (.inr (.inr (.inr (fun _ => none)))))), (q3, .inl (cy 0, 26, .inl (fun _ => (0 : Int32))))]) H := hP
  have hD : va_D A ([(b, .inr (2, [.ref q1, .ref q2, .ref q3, .null, .null, .null, .int 0, .int 0, .int 0, .int 0, .int 0])), (q1, .inl (cy 0, 3, .inl (fun _ => (0 : Int32)))), (q2, .inl (cy 2, 2, .inr (.inr (.inr (.inr (fun _ => none)))))), (q3, .inl (cy 0, 26, .inl (fun _ => (0 : Int32))))]) := hD
  refine lv_aload_n hx hb dX3_init_27 rfl (lv_at hl 0 rfl) ?_
  refine lv_bipush (v := 26) hx hb dX3_init_28 (by decide) ?_
  refine va_newa (atype := .int) (ty := .int) (a0 := (26, .inl (fun _ => 0))) hx hb (hts _ (List.mem_of_getElem? (i := 4) rfl)) rfl hK hP hD hS hA (fun _ => rfl) (by decide) (by decide) (by decide) (Nat.le_of_ble_eq_true rfl) (Nat.le_of_ble_eq_true rfl) dX3_init_30 (fun q4 cA H hKn hP hD hS => ?_)
  have hcA := cA_i hKn
  subst hcA
  clear hKn
  have hP : va_P D vwCl ([(b, .inr (2, [.ref q1, .ref q2, .ref q3, .null, .null, .null, .int 0, .int 0, .int 0, .int 0, .int 0])), (q1, .inl (cy 0, 3, .inl (fun _ => (0 : Int32)))), (q2, .inl (cy 2, 2, .inr (.inr (.inr (.inr (fun _ => none)))))), (q3, .inl (cy 0, 26, .inl (fun _ => (0 : Int32)))), (q4, .inl (cy 0, 26, .inl (fun _ => (0 : Int32))))]) H := hP
  have hD : va_D A ([(b, .inr (2, [.ref q1, .ref q2, .ref q3, .null, .null, .null, .int 0, .int 0, .int 0, .int 0, .int 0])), (q1, .inl (cy 0, 3, .inl (fun _ => (0 : Int32)))), (q2, .inl (cy 2, 2, .inr (.inr (.inr (.inr (fun _ => none)))))), (q3, .inl (cy 0, 26, .inl (fun _ => (0 : Int32)))), (q4, .inl (cy 0, 26, .inl (fun _ => (0 : Int32))))]) := hD
  refine va_putF (D := D) (ci := 2) (v := .ref q4) (ty := tyX3 3) (C := RX3) (T := TX3) (N := 11) hx hb hts inX3_init_X3 tyX3 tyX3_ok nmX3 hown hK hP hD hS 0 rfl rfl 3 (by decide) (hts _ (List.mem_of_getElem? (i := 9) rfl)) (fun _ h9 => h9) rfl hin rfl (by decide +kernel) rfl rfl (Nat.le_of_ble_eq_true rfl) dX3_init_32 (fun H locs hP hD hS => ?_)
  have hP : va_P D vwCl ([(b, .inr (2, [.ref q1, .ref q2, .ref q3, .ref q4, .null, .null, .int 0, .int 0, .int 0, .int 0, .int 0])), (q1, .inl (cy 0, 3, .inl (fun _ => (0 : Int32)))), (q2, .inl (cy 2, 2, .inr (.inr (.inr (.inr (fun _ => none)))))), (q3, .inl (cy 0, 26, .inl (fun _ => (0 : Int32)))), (q4, .inl (cy 0, 26, .inl (fun _ => (0 : Int32))))]) H := hP
  have hD : va_D A ([(b, .inr (2, [.ref q1, .ref q2, .ref q3, .ref q4, .null, .null, .int 0, .int 0, .int 0, .int 0, .int 0])), (q1, .inl (cy 0, 3, .inl (fun _ => (0 : Int32)))), (q2, .inl (cy 2, 2, .inr (.inr (.inr (.inr (fun _ => none)))))), (q3, .inl (cy 0, 26, .inl (fun _ => (0 : Int32)))), (q4, .inl (cy 0, 26, .inl (fun _ => (0 : Int32))))]) := hD
  refine lv_aload_n hx hb dX3_init_35 rfl (lv_at hl 0 rfl) ?_
  refine lv_bipush (v := 26) hx hb dX3_init_36 (by decide) ?_
  refine va_newa (atype := .int) (ty := .int) (a0 := (26, .inl (fun _ => 0))) hx hb (hts _ (List.mem_of_getElem? (i := 4) rfl)) rfl hK hP hD hS hA (fun _ => rfl) (by decide) (by decide) (by decide) (Nat.le_of_ble_eq_true rfl) (Nat.le_of_ble_eq_true rfl) dX3_init_38 (fun q5 cA H hKn hP hD hS => ?_)
  have hcA := cA_i hKn
  subst hcA
  clear hKn
  have hP : va_P D vwCl ([(b, .inr (2, [.ref q1, .ref q2, .ref q3, .ref q4, .null, .null, .int 0, .int 0, .int 0, .int 0, .int 0])), (q1, .inl (cy 0, 3, .inl (fun _ => (0 : Int32)))), (q2, .inl (cy 2, 2, .inr (.inr (.inr (.inr (fun _ => none)))))), (q3, .inl (cy 0, 26, .inl (fun _ => (0 : Int32)))), (q4, .inl (cy 0, 26, .inl (fun _ => (0 : Int32)))), (q5, .inl (cy 0, 26, .inl (fun _ => (0 : Int32))))]) H := hP
  have hD : va_D A ([(b, .inr (2, [.ref q1, .ref q2, .ref q3, .ref q4, .null, .null, .int 0, .int 0, .int 0, .int 0, .int 0])), (q1, .inl (cy 0, 3, .inl (fun _ => (0 : Int32)))), (q2, .inl (cy 2, 2, .inr (.inr (.inr (.inr (fun _ => none)))))), (q3, .inl (cy 0, 26, .inl (fun _ => (0 : Int32)))), (q4, .inl (cy 0, 26, .inl (fun _ => (0 : Int32)))), (q5, .inl (cy 0, 26, .inl (fun _ => (0 : Int32))))]) := hD
  refine va_putF (D := D) (ci := 2) (v := .ref q5) (ty := tyX3 4) (C := RX3) (T := TX3) (N := 11) hx hb hts inX3_init_X3 tyX3 tyX3_ok nmX3 hown hK hP hD hS 0 rfl rfl 4 (by decide) (hts _ (List.mem_of_getElem? (i := 10) rfl)) (fun _ h9 => h9) rfl hin rfl (by decide +kernel) rfl rfl (Nat.le_of_ble_eq_true rfl) dX3_init_40 (fun H locs hP hD hS => ?_)
  have hP : va_P D vwCl ([(b, .inr (2, [.ref q1, .ref q2, .ref q3, .ref q4, .ref q5, .null, .int 0, .int 0, .int 0, .int 0, .int 0])), (q1, .inl (cy 0, 3, .inl (fun _ => (0 : Int32)))), (q2, .inl (cy 2, 2, .inr (.inr (.inr (.inr (fun _ => none)))))), (q3, .inl (cy 0, 26, .inl (fun _ => (0 : Int32)))), (q4, .inl (cy 0, 26, .inl (fun _ => (0 : Int32)))), (q5, .inl (cy 0, 26, .inl (fun _ => (0 : Int32))))]) H := hP
  have hD : va_D A ([(b, .inr (2, [.ref q1, .ref q2, .ref q3, .ref q4, .ref q5, .null, .int 0, .int 0, .int 0, .int 0, .int 0])), (q1, .inl (cy 0, 3, .inl (fun _ => (0 : Int32)))), (q2, .inl (cy 2, 2, .inr (.inr (.inr (.inr (fun _ => none)))))), (q3, .inl (cy 0, 26, .inl (fun _ => (0 : Int32)))), (q4, .inl (cy 0, 26, .inl (fun _ => (0 : Int32)))), (q5, .inl (cy 0, 26, .inl (fun _ => (0 : Int32))))]) := hD
  refine lv_aload_n hx hb dX3_init_43 rfl (lv_at hl 0 rfl) ?_
  refine lv_bipush (v := 26) hx hb dX3_init_44 (by decide) ?_
  refine va_newa (atype := .int) (ty := .int) (a0 := (26, .inl (fun _ => 0))) hx hb (hts _ (List.mem_of_getElem? (i := 4) rfl)) rfl hK hP hD hS hA (fun _ => rfl) (by decide) (by decide) (by decide) (Nat.le_of_ble_eq_true rfl) (Nat.le_of_ble_eq_true rfl) dX3_init_46 (fun q6 cA H hKn hP hD hS => ?_)
  have hcA := cA_i hKn
  subst hcA
  clear hKn
  have hP : va_P D vwCl ([(b, .inr (2, [.ref q1, .ref q2, .ref q3, .ref q4, .ref q5, .null, .int 0, .int 0, .int 0, .int 0, .int 0])), (q1, .inl (cy 0, 3, .inl (fun _ => (0 : Int32)))), (q2, .inl (cy 2, 2, .inr (.inr (.inr (.inr (fun _ => none)))))), (q3, .inl (cy 0, 26, .inl (fun _ => (0 : Int32)))), (q4, .inl (cy 0, 26, .inl (fun _ => (0 : Int32)))), (q5, .inl (cy 0, 26, .inl (fun _ => (0 : Int32)))), (q6, .inl (cy 0, 26, .inl (fun _ => (0 : Int32))))]) H := hP
  have hD : va_D A ([(b, .inr (2, [.ref q1, .ref q2, .ref q3, .ref q4, .ref q5, .null, .int 0, .int 0, .int 0, .int 0, .int 0])), (q1, .inl (cy 0, 3, .inl (fun _ => (0 : Int32)))), (q2, .inl (cy 2, 2, .inr (.inr (.inr (.inr (fun _ => none)))))), (q3, .inl (cy 0, 26, .inl (fun _ => (0 : Int32)))), (q4, .inl (cy 0, 26, .inl (fun _ => (0 : Int32)))), (q5, .inl (cy 0, 26, .inl (fun _ => (0 : Int32)))), (q6, .inl (cy 0, 26, .inl (fun _ => (0 : Int32))))]) := hD
  refine va_putF (D := D) (ci := 2) (v := .ref q6) (ty := tyX3 5) (C := RX3) (T := TX3) (N := 11) hx hb hts inX3_init_X3 tyX3 tyX3_ok nmX3 hown hK hP hD hS 0 rfl rfl 5 (by decide) (hts _ (List.mem_of_getElem? (i := 11) rfl)) (fun _ h9 => h9) rfl hin rfl (by decide +kernel) rfl rfl (Nat.le_of_ble_eq_true rfl) dX3_init_48 (fun H locs hP hD hS => ?_)
  have hP : va_P D vwCl ([(b, .inr (2, [.ref q1, .ref q2, .ref q3, .ref q4, .ref q5, .ref q6, .int 0, .int 0, .int 0, .int 0, .int 0])), (q1, .inl (cy 0, 3, .inl (fun _ => (0 : Int32)))), (q2, .inl (cy 2, 2, .inr (.inr (.inr (.inr (fun _ => none)))))), (q3, .inl (cy 0, 26, .inl (fun _ => (0 : Int32)))), (q4, .inl (cy 0, 26, .inl (fun _ => (0 : Int32)))), (q5, .inl (cy 0, 26, .inl (fun _ => (0 : Int32)))), (q6, .inl (cy 0, 26, .inl (fun _ => (0 : Int32))))]) H := hP
  have hD : va_D A ([(b, .inr (2, [.ref q1, .ref q2, .ref q3, .ref q4, .ref q5, .ref q6, .int 0, .int 0, .int 0, .int 0, .int 0])), (q1, .inl (cy 0, 3, .inl (fun _ => (0 : Int32)))), (q2, .inl (cy 2, 2, .inr (.inr (.inr (.inr (fun _ => none)))))), (q3, .inl (cy 0, 26, .inl (fun _ => (0 : Int32)))), (q4, .inl (cy 0, 26, .inl (fun _ => (0 : Int32)))), (q5, .inl (cy 0, 26, .inl (fun _ => (0 : Int32)))), (q6, .inl (cy 0, 26, .inl (fun _ => (0 : Int32))))]) := hD
  refine lv_aload_n hx hb dX3_init_51 rfl (lv_at hl 0 rfl) ?_
  refine va_get (D := D) (ci := 2) (v := .ref q1) (C := RX3) (T := TX3) (N := 11) hx hb hts inX3_init_X3 hown hK hP 0 rfl rfl 0 (by decide) (hts _ (List.mem_of_getElem? (i := 5) rfl)) (fun _ h9 => h9) rfl dX3_init_52 ?_
  refine lv_iconst (v := 0) hx hb dX3_init_55 (by decide) ?_
  refine lv_iconst (v := 4) hx hb dX3_init_56 (by decide) ?_
  refine x_iast (j := 0) hx hb hK hP hD hS 1 0 rfl rfl rfl (vp_c (by decide)) dX3_init_57 (fun H locs hP hD hS => ?_)
  have hP : va_P D vwCl ([(b, .inr (2, [.ref q1, .ref q2, .ref q3, .ref q4, .ref q5, .ref q6, .int 0, .int 0, .int 0, .int 0, .int 0])), (q1, .inl (cy 0, 3, .inl (upd (fun _ => (0 : Int32)) 0 (4 : Int32)))), (q2, .inl (cy 2, 2, .inr (.inr (.inr (.inr (fun _ => none)))))), (q3, .inl (cy 0, 26, .inl (fun _ => (0 : Int32)))), (q4, .inl (cy 0, 26, .inl (fun _ => (0 : Int32)))), (q5, .inl (cy 0, 26, .inl (fun _ => (0 : Int32)))), (q6, .inl (cy 0, 26, .inl (fun _ => (0 : Int32))))]) H := hP
  have hD : va_D A ([(b, .inr (2, [.ref q1, .ref q2, .ref q3, .ref q4, .ref q5, .ref q6, .int 0, .int 0, .int 0, .int 0, .int 0])), (q1, .inl (cy 0, 3, .inl (upd (fun _ => (0 : Int32)) 0 (4 : Int32)))), (q2, .inl (cy 2, 2, .inr (.inr (.inr (.inr (fun _ => none)))))), (q3, .inl (cy 0, 26, .inl (fun _ => (0 : Int32)))), (q4, .inl (cy 0, 26, .inl (fun _ => (0 : Int32)))), (q5, .inl (cy 0, 26, .inl (fun _ => (0 : Int32)))), (q6, .inl (cy 0, 26, .inl (fun _ => (0 : Int32))))]) := hD
  refine lv_aload_n hx hb dX3_init_58 rfl (lv_at hl 0 rfl) ?_
  refine va_get (D := D) (ci := 2) (v := .ref q1) (C := RX3) (T := TX3) (N := 11) hx hb hts inX3_init_X3 hown hK hP 0 rfl rfl 0 (by decide) (hts _ (List.mem_of_getElem? (i := 5) rfl)) (fun _ h9 => h9) rfl dX3_init_59 ?_
  refine lv_iconst (v := 1) hx hb dX3_init_62 (by decide) ?_
  refine lv_iconst (v := 2) hx hb dX3_init_63 (by decide) ?_
  refine x_iast (j := 1) hx hb hK hP hD hS 1 0 rfl rfl rfl (vp_c (by decide)) dX3_init_64 (fun H locs hP hD hS => ?_)
  have hP : va_P D vwCl ([(b, .inr (2, [.ref q1, .ref q2, .ref q3, .ref q4, .ref q5, .ref q6, .int 0, .int 0, .int 0, .int 0, .int 0])), (q1, .inl (cy 0, 3, .inl (upd (upd (fun _ => (0 : Int32)) 0 (4 : Int32)) 1 (2 : Int32)))), (q2, .inl (cy 2, 2, .inr (.inr (.inr (.inr (fun _ => none)))))), (q3, .inl (cy 0, 26, .inl (fun _ => (0 : Int32)))), (q4, .inl (cy 0, 26, .inl (fun _ => (0 : Int32)))), (q5, .inl (cy 0, 26, .inl (fun _ => (0 : Int32)))), (q6, .inl (cy 0, 26, .inl (fun _ => (0 : Int32))))]) H := hP
  have hD : va_D A ([(b, .inr (2, [.ref q1, .ref q2, .ref q3, .ref q4, .ref q5, .ref q6, .int 0, .int 0, .int 0, .int 0, .int 0])), (q1, .inl (cy 0, 3, .inl (upd (upd (fun _ => (0 : Int32)) 0 (4 : Int32)) 1 (2 : Int32)))), (q2, .inl (cy 2, 2, .inr (.inr (.inr (.inr (fun _ => none)))))), (q3, .inl (cy 0, 26, .inl (fun _ => (0 : Int32)))), (q4, .inl (cy 0, 26, .inl (fun _ => (0 : Int32)))), (q5, .inl (cy 0, 26, .inl (fun _ => (0 : Int32)))), (q6, .inl (cy 0, 26, .inl (fun _ => (0 : Int32))))]) := hD
  refine lv_aload_n hx hb dX3_init_65 rfl (lv_at hl 0 rfl) ?_
  refine va_get (D := D) (ci := 2) (v := .ref q1) (C := RX3) (T := TX3) (N := 11) hx hb hts inX3_init_X3 hown hK hP 0 rfl rfl 0 (by decide) (hts _ (List.mem_of_getElem? (i := 5) rfl)) (fun _ h9 => h9) rfl dX3_init_66 ?_
  refine lv_iconst (v := 2) hx hb dX3_init_69 (by decide) ?_
  refine lv_iconst (v := 2) hx hb dX3_init_70 (by decide) ?_
  refine x_iast (j := 2) hx hb hK hP hD hS 1 0 rfl rfl rfl (vp_c (by decide)) dX3_init_71 (fun H locs hP hD hS => ?_)
  have hP : va_P D vwCl ([(b, .inr (2, [.ref q1, .ref q2, .ref q3, .ref q4, .ref q5, .ref q6, .int 0, .int 0, .int 0, .int 0, .int 0])), (q1, .inl (cy 0, 3, .inl (upd (upd (upd (fun _ => (0 : Int32)) 0 (4 : Int32)) 1 (2 : Int32)) 2 (2 : Int32)))), (q2, .inl (cy 2, 2, .inr (.inr (.inr (.inr (fun _ => none)))))), (q3, .inl (cy 0, 26, .inl (fun _ => (0 : Int32)))), (q4, .inl (cy 0, 26, .inl (fun _ => (0 : Int32)))), (q5, .inl (cy 0, 26, .inl (fun _ => (0 : Int32)))), (q6, .inl (cy 0, 26, .inl (fun _ => (0 : Int32))))]) H := hP
  have hD : va_D A ([(b, .inr (2, [.ref q1, .ref q2, .ref q3, .ref q4, .ref q5, .ref q6, .int 0, .int 0, .int 0, .int 0, .int 0])), (q1, .inl (cy 0, 3, .inl (upd (upd (upd (fun _ => (0 : Int32)) 0 (4 : Int32)) 1 (2 : Int32)) 2 (2 : Int32)))), (q2, .inl (cy 2, 2, .inr (.inr (.inr (.inr (fun _ => none)))))), (q3, .inl (cy 0, 26, .inl (fun _ => (0 : Int32)))), (q4, .inl (cy 0, 26, .inl (fun _ => (0 : Int32)))), (q5, .inl (cy 0, 26, .inl (fun _ => (0 : Int32)))), (q6, .inl (cy 0, 26, .inl (fun _ => (0 : Int32))))]) := hD
  refine lv_iconst (v := 0) hx hb dX3_init_72 (by decide) ?_
  refine lv_istore_n (lv' := [(1, .int (0 : Int32)), (0, .ref b)]) hx hb dX3_init_73 rfl hl (by decide) rfl (fun ls hl => ?_)
  refine lv_iload_n hx hb dX3_init_74 rfl (lv_at hl 0 rfl) ?_
  refine lv_iconst (v := 2) hx hb dX3_init_75 (by decide) ?_
  refine lv_icmp_ge (tgt := 98) hx hb dX3_init_76 (by decide) (fun c_7 => absurd c_7 (by decide)) (fun c_7 => ?_)
  refine lv_aload_n hx hb dX3_init_79 rfl (lv_at hl 1 rfl) ?_
  refine va_get (D := D) (ci := 2) (v := .ref q2) (C := RX3) (T := TX3) (N := 11) hx hb hts inX3_init_X3 hown hK hP 0 rfl rfl 1 (by decide) (hts _ (List.mem_of_getElem? (i := 7) rfl)) (fun _ h9 => h9) rfl dX3_init_80 ?_
  refine lv_iload_n hx hb dX3_init_83 rfl (lv_at hl 0 rfl) ?_
  refine va_new (ci := 0) (fs := [.null, .null, .null, .null, .null, .null, .int 0, .int 0]) (C := RX0) (T := TX0) (N := 8) hx hb hts inX3_init_X0 tyX0 tyX0_ok hown (hts _ (List.mem_of_getElem? (i := 6) rfl)) (hts _ (List.mem_of_getElem? (i := 12) rfl)) (hts _ (List.mem_of_getElem? (i := 13) rfl)) hK hP hD hS hA rfl (fun j hj => by rcases (show j = 0 ∨ j = 1 ∨ j = 2 ∨ j = 3 ∨ j = 4 ∨ j = 5 ∨ j = 6 ∨ j = 7 by omega) with rfl | rfl | rfl | rfl | rfl | rfl | rfl | rfl <;> rfl) (Nat.le_of_ble_eq_true rfl) (Nat.le_of_ble_eq_true rfl) dX3_init_84 (fun q8 H hP hD hS => ?_)
  have hP : va_P D vwCl ([(b, .inr (2, [.ref q1, .ref q2, .ref q3, .ref q4, .ref q5, .ref q6, .int 0, .int 0, .int 0, .int 0, .int 0])), (q1, .inl (cy 0, 3, .inl (upd (upd (upd (fun _ => (0 : Int32)) 0 (4 : Int32)) 1 (2 : Int32)) 2 (2 : Int32)))), (q2, .inl (cy 2, 2, .inr (.inr (.inr (.inr (fun _ => none)))))), (q3, .inl (cy 0, 26, .inl (fun _ => (0 : Int32)))), (q4, .inl (cy 0, 26, .inl (fun _ => (0 : Int32)))), (q5, .inl (cy 0, 26, .inl (fun _ => (0 : Int32)))), (q6, .inl (cy 0, 26, .inl (fun _ => (0 : Int32)))), (q8, .inr (0, [.null, .null, .null, .null, .null, .null, .int 0, .int 0]))]) H := hP
  have hD : va_D A ([(b, .inr (2, [.ref q1, .ref q2, .ref q3, .ref q4, .ref q5, .ref q6, .int 0, .int 0, .int 0, .int 0, .int 0])), (q1, .inl (cy 0, 3, .inl (upd (upd (upd (fun _ => (0 : Int32)) 0 (4 : Int32)) 1 (2 : Int32)) 2 (2 : Int32)))), (q2, .inl (cy 2, 2, .inr (.inr (.inr (.inr (fun _ => none)))))), (q3, .inl (cy 0, 26, .inl (fun _ => (0 : Int32)))), (q4, .inl (cy 0, 26, .inl (fun _ => (0 : Int32)))), (q5, .inl (cy 0, 26, .inl (fun _ => (0 : Int32)))), (q6, .inl (cy 0, 26, .inl (fun _ => (0 : Int32)))), (q8, .inr (0, [.null, .null, .null, .null, .null, .null, .int 0, .int 0]))]) := hD
  refine lv_dup hx hb dX3_init_87 rfl ?_
  refine cl_e (va_runIN (As := []) (rest := [.ref q8, .int (0 : Int32), .ref q2]) ⟨hx, hb, hml, hown, hts⟩ (c_X0_init l D cy q8 H.size) ⟨va_cnB 0 hts gX3_init_X0_init_n33 rfl rfl rfl hE.2.2.2.2.2.2.2.2.1 (hts _ (List.mem_of_getElem? (i := 13) rfl)) (by decide +kernel) ⟨Nat.le_of_ble_eq_true rfl, Nat.le_of_ble_eq_true rfl⟩, rfl, (hts _ (List.mem_of_getElem? (i := 15) rfl))⟩ ⟨blU, preU hP hD (List.perm_append_comm (l₁ := (([(b, .inr (2, [.ref q1, .ref q2, .ref q3, .ref q4, .ref q5, .ref q6, .int 0, .int 0, .int 0, .int 0, .int 0])), (q1, .inl (cy 0, 3, .inl (upd (upd (upd (fun _ => (0 : Int32)) 0 (4 : Int32)) 1 (2 : Int32)) 2 (2 : Int32)))), (q2, .inl (cy 2, 2, .inr (.inr (.inr (.inr (fun _ => none)))))), (q3, .inl (cy 0, 26, .inl (fun _ => (0 : Int32)))), (q4, .inl (cy 0, 26, .inl (fun _ => (0 : Int32)))), (q5, .inl (cy 0, 26, .inl (fun _ => (0 : Int32)))), (q6, .inl (cy 0, 26, .inl (fun _ => (0 : Int32))))]) : va_W)) (l₂ := ([(q8, .inr (0, [.null, .null, .null, .null, .null, .null, .int 0, .int 0]))] : va_W))) hK hE hS hA⟩ rfl rfl hl.1 rfl (lv_room (Nat.le_of_ble_eq_true rfl)) dX3_init_88 ⟨Nat.le_of_ble_eq_true rfl, Nat.le_of_ble_eq_true rfl⟩) hP hD (List.perm_append_comm (l₁ := (([(b, .inr (2, [.ref q1, .ref q2, .ref q3, .ref q4, .ref q5, .ref q6, .int 0, .int 0, .int 0, .int 0, .int 0])), (q1, .inl (cy 0, 3, .inl (upd (upd (upd (fun _ => (0 : Int32)) 0 (4 : Int32)) 1 (2 : Int32)) 2 (2 : Int32)))), (q2, .inl (cy 2, 2, .inr (.inr (.inr (.inr (fun _ => none)))))), (q3, .inl (cy 0, 26, .inl (fun _ => (0 : Int32)))), (q4, .inl (cy 0, 26, .inl (fun _ => (0 : Int32)))), (q5, .inl (cy 0, 26, .inl (fun _ => (0 : Int32)))), (q6, .inl (cy 0, 26, .inl (fun _ => (0 : Int32))))]) : va_W)) (l₂ := ([(q8, .inr (0, [.null, .null, .null, .null, .null, .null, .int 0, .int 0]))] : va_W))) hS hA (fun u9 H locs hu hPn hDn hS => ?_)
  have hu : (u9 0) = q8 := hu
  subst hu
  have hP := vP_perm hPn (List.perm_append_comm (l₁ := (cD cy u9 z0 : va_W)) (l₂ := (([(b, .inr (2, [.ref q1, .ref q2, .ref q3, .ref q4, .ref q5, .ref q6, .int 0, .int 0, .int 0, .int 0, .int 0])), (q1, .inl (cy 0, 3, .inl (upd (upd (upd (fun _ => (0 : Int32)) 0 (4 : Int32)) 1 (2 : Int32)) 2 (2 : Int32)))), (q2, .inl (cy 2, 2, .inr (.inr (.inr (.inr (fun _ => none)))))), (q3, .inl (cy 0, 26, .inl (fun _ => (0 : Int32)))), (q4, .inl (cy 0, 26, .inl (fun _ => (0 : Int32)))), (q5, .inl (cy 0, 26, .inl (fun _ => (0 : Int32)))), (q6, .inl (cy 0, 26, .inl (fun _ => (0 : Int32))))]) : va_W)))
  have hD := vD_perm hDn (List.perm_append_comm (l₁ := (cD cy u9 z0 : va_W)) (l₂ := (([(b, .inr (2, [.ref q1, .ref q2, .ref q3, .ref q4, .ref q5, .ref q6, .int 0, .int 0, .int 0, .int 0, .int 0])), (q1, .inl (cy 0, 3, .inl (upd (upd (upd (fun _ => (0 : Int32)) 0 (4 : Int32)) 1 (2 : Int32)) 2 (2 : Int32)))), (q2, .inl (cy 2, 2, .inr (.inr (.inr (.inr (fun _ => none)))))), (q3, .inl (cy 0, 26, .inl (fun _ => (0 : Int32)))), (q4, .inl (cy 0, 26, .inl (fun _ => (0 : Int32)))), (q5, .inl (cy 0, 26, .inl (fun _ => (0 : Int32)))), (q6, .inl (cy 0, 26, .inl (fun _ => (0 : Int32))))]) : va_W)))
  have hP : va_P D vwCl ([(b, .inr (2, [.ref q1, .ref q2, .ref q3, .ref q4, .ref q5, .ref q6, .int 0, .int 0, .int 0, .int 0, .int 0])), (q1, .inl (cy 0, 3, .inl (upd (upd (upd (fun _ => (0 : Int32)) 0 (4 : Int32)) 1 (2 : Int32)) 2 (2 : Int32)))), (q2, .inl (cy 2, 2, .inr (.inr (.inr (.inr (fun _ => none)))))), (q3, .inl (cy 0, 26, .inl (fun _ => (0 : Int32)))), (q4, .inl (cy 0, 26, .inl (fun _ => (0 : Int32)))), (q5, .inl (cy 0, 26, .inl (fun _ => (0 : Int32)))), (q6, .inl (cy 0, 26, .inl (fun _ => (0 : Int32))))] ++ cD cy u9 z0) H := hP
  have hD : va_D A ([(b, .inr (2, [.ref q1, .ref q2, .ref q3, .ref q4, .ref q5, .ref q6, .int 0, .int 0, .int 0, .int 0, .int 0])), (q1, .inl (cy 0, 3, .inl (upd (upd (upd (fun _ => (0 : Int32)) 0 (4 : Int32)) 1 (2 : Int32)) 2 (2 : Int32)))), (q2, .inl (cy 2, 2, .inr (.inr (.inr (.inr (fun _ => none)))))), (q3, .inl (cy 0, 26, .inl (fun _ => (0 : Int32)))), (q4, .inl (cy 0, 26, .inl (fun _ => (0 : Int32)))), (q5, .inl (cy 0, 26, .inl (fun _ => (0 : Int32)))), (q6, .inl (cy 0, 26, .inl (fun _ => (0 : Int32))))] ++ cD cy u9 z0) := hD
  refine va_astq (r := (RX0, TX0, 8)) hx hb hK hP hD hS 2 2 7 0 rfl rfl rfl rfl (vp_c (by decide)) dX3_init_91 (fun H locs hP hD hS => ?_)
  have hP : va_P D vwCl ([(b, .inr (2, [.ref q1, .ref q2, .ref q3, .ref q4, .ref q5, .ref q6, .int 0, .int 0, .int 0, .int 0, .int 0])), (q1, .inl (cy 0, 3, .inl (upd (upd (upd (fun _ => (0 : Int32)) 0 (4 : Int32)) 1 (2 : Int32)) 2 (2 : Int32)))), (q2, .inl (cy 2, 2, .inr (.inr (.inr (.inr (va_up (fun _ => none) 0 (some (u9 0)))))))), (q3, .inl (cy 0, 26, .inl (fun _ => (0 : Int32)))), (q4, .inl (cy 0, 26, .inl (fun _ => (0 : Int32)))), (q5, .inl (cy 0, 26, .inl (fun _ => (0 : Int32)))), (q6, .inl (cy 0, 26, .inl (fun _ => (0 : Int32))))] ++ cD cy u9 z0) H := hP
  have hD : va_D A ([(b, .inr (2, [.ref q1, .ref q2, .ref q3, .ref q4, .ref q5, .ref q6, .int 0, .int 0, .int 0, .int 0, .int 0])), (q1, .inl (cy 0, 3, .inl (upd (upd (upd (fun _ => (0 : Int32)) 0 (4 : Int32)) 1 (2 : Int32)) 2 (2 : Int32)))), (q2, .inl (cy 2, 2, .inr (.inr (.inr (.inr (va_up (fun _ => none) 0 (some (u9 0)))))))), (q3, .inl (cy 0, 26, .inl (fun _ => (0 : Int32)))), (q4, .inl (cy 0, 26, .inl (fun _ => (0 : Int32)))), (q5, .inl (cy 0, 26, .inl (fun _ => (0 : Int32)))), (q6, .inl (cy 0, 26, .inl (fun _ => (0 : Int32))))] ++ cD cy u9 z0) := hD
  refine lv_iinc (v := (1 : Int32)) (lv' := [(1, .int (1 : Int32)), (0, .ref b)]) hx hb dX3_init_92 hl (k := 0) rfl (by decide) (by decide) rfl (fun ls hl => ?_)
  refine lv_goto (tgt := 74) hx hb dX3_init_95 (by decide) ?_
  refine lv_iload_n hx hb dX3_init_74 rfl (lv_at hl 0 rfl) ?_
  refine lv_iconst (v := 2) hx hb dX3_init_75 (by decide) ?_
  refine lv_icmp_ge (tgt := 98) hx hb dX3_init_76 (by decide) (fun c_10 => absurd c_10 (by decide)) (fun c_10 => ?_)
  refine lv_aload_n hx hb dX3_init_79 rfl (lv_at hl 1 rfl) ?_
  refine va_get (D := D) (ci := 2) (v := .ref q2) (C := RX3) (T := TX3) (N := 11) hx hb hts inX3_init_X3 hown hK hP 0 rfl rfl 1 (by decide) (hts _ (List.mem_of_getElem? (i := 7) rfl)) (fun _ h9 => h9) rfl dX3_init_80 ?_
  refine lv_iload_n hx hb dX3_init_83 rfl (lv_at hl 0 rfl) ?_
  refine va_new (ci := 0) (fs := [.null, .null, .null, .null, .null, .null, .int 0, .int 0]) (C := RX0) (T := TX0) (N := 8) hx hb hts inX3_init_X0 tyX0 tyX0_ok hown (hts _ (List.mem_of_getElem? (i := 6) rfl)) (hts _ (List.mem_of_getElem? (i := 12) rfl)) (hts _ (List.mem_of_getElem? (i := 13) rfl)) hK hP hD hS hA rfl (fun j hj => by rcases (show j = 0 ∨ j = 1 ∨ j = 2 ∨ j = 3 ∨ j = 4 ∨ j = 5 ∨ j = 6 ∨ j = 7 by omega) with rfl | rfl | rfl | rfl | rfl | rfl | rfl | rfl <;> rfl) (Nat.le_of_ble_eq_true rfl) (Nat.le_of_ble_eq_true rfl) dX3_init_84 (fun q11 H hP hD hS => ?_)
  have hP : va_P D vwCl ([(b, .inr (2, [.ref q1, .ref q2, .ref q3, .ref q4, .ref q5, .ref q6, .int 0, .int 0, .int 0, .int 0, .int 0])), (q1, .inl (cy 0, 3, .inl (upd (upd (upd (fun _ => (0 : Int32)) 0 (4 : Int32)) 1 (2 : Int32)) 2 (2 : Int32)))), (q2, .inl (cy 2, 2, .inr (.inr (.inr (.inr (va_up (fun _ => none) 0 (some (u9 0)))))))), (q3, .inl (cy 0, 26, .inl (fun _ => (0 : Int32)))), (q4, .inl (cy 0, 26, .inl (fun _ => (0 : Int32)))), (q5, .inl (cy 0, 26, .inl (fun _ => (0 : Int32)))), (q6, .inl (cy 0, 26, .inl (fun _ => (0 : Int32))))] ++ cD cy u9 z0 ++ [(q11, .inr (0, [.null, .null, .null, .null, .null, .null, .int 0, .int 0]))]) H := hP
  have hD : va_D A ([(b, .inr (2, [.ref q1, .ref q2, .ref q3, .ref q4, .ref q5, .ref q6, .int 0, .int 0, .int 0, .int 0, .int 0])), (q1, .inl (cy 0, 3, .inl (upd (upd (upd (fun _ => (0 : Int32)) 0 (4 : Int32)) 1 (2 : Int32)) 2 (2 : Int32)))), (q2, .inl (cy 2, 2, .inr (.inr (.inr (.inr (va_up (fun _ => none) 0 (some (u9 0)))))))), (q3, .inl (cy 0, 26, .inl (fun _ => (0 : Int32)))), (q4, .inl (cy 0, 26, .inl (fun _ => (0 : Int32)))), (q5, .inl (cy 0, 26, .inl (fun _ => (0 : Int32)))), (q6, .inl (cy 0, 26, .inl (fun _ => (0 : Int32))))] ++ cD cy u9 z0 ++ [(q11, .inr (0, [.null, .null, .null, .null, .null, .null, .int 0, .int 0]))]) := hD
  refine lv_dup hx hb dX3_init_87 rfl ?_
  refine cl_e (va_runIN (As := []) (rest := [.ref q11, .int (1 : Int32), .ref q2]) ⟨hx, hb, hml, hown, hts⟩ (c_X0_init l D cy q11 H.size) ⟨va_cnB 0 hts gX3_init_X0_init_n33 rfl rfl rfl hE.2.2.2.2.2.2.2.2.1 (hts _ (List.mem_of_getElem? (i := 13) rfl)) (by decide +kernel) ⟨Nat.le_of_ble_eq_true rfl, Nat.le_of_ble_eq_true rfl⟩, rfl, (hts _ (List.mem_of_getElem? (i := 15) rfl))⟩ ⟨blU, preU hP hD (List.perm_append_comm (l₁ := (([(b, .inr (2, [.ref q1, .ref q2, .ref q3, .ref q4, .ref q5, .ref q6, .int 0, .int 0, .int 0, .int 0, .int 0])), (q1, .inl (cy 0, 3, .inl (upd (upd (upd (fun _ => (0 : Int32)) 0 (4 : Int32)) 1 (2 : Int32)) 2 (2 : Int32)))), (q2, .inl (cy 2, 2, .inr (.inr (.inr (.inr (va_up (fun _ => none) 0 (some (u9 0)))))))), (q3, .inl (cy 0, 26, .inl (fun _ => (0 : Int32)))), (q4, .inl (cy 0, 26, .inl (fun _ => (0 : Int32)))), (q5, .inl (cy 0, 26, .inl (fun _ => (0 : Int32)))), (q6, .inl (cy 0, 26, .inl (fun _ => (0 : Int32))))] ++ cD cy u9 z0) : va_W)) (l₂ := ([(q11, .inr (0, [.null, .null, .null, .null, .null, .null, .int 0, .int 0]))] : va_W))) hK hE hS hA⟩ rfl rfl hl.1 rfl (lv_room (Nat.le_of_ble_eq_true rfl)) dX3_init_88 ⟨Nat.le_of_ble_eq_true rfl, Nat.le_of_ble_eq_true rfl⟩) hP hD (List.perm_append_comm (l₁ := (([(b, .inr (2, [.ref q1, .ref q2, .ref q3, .ref q4, .ref q5, .ref q6, .int 0, .int 0, .int 0, .int 0, .int 0])), (q1, .inl (cy 0, 3, .inl (upd (upd (upd (fun _ => (0 : Int32)) 0 (4 : Int32)) 1 (2 : Int32)) 2 (2 : Int32)))), (q2, .inl (cy 2, 2, .inr (.inr (.inr (.inr (va_up (fun _ => none) 0 (some (u9 0)))))))), (q3, .inl (cy 0, 26, .inl (fun _ => (0 : Int32)))), (q4, .inl (cy 0, 26, .inl (fun _ => (0 : Int32)))), (q5, .inl (cy 0, 26, .inl (fun _ => (0 : Int32)))), (q6, .inl (cy 0, 26, .inl (fun _ => (0 : Int32))))] ++ cD cy u9 z0) : va_W)) (l₂ := ([(q11, .inr (0, [.null, .null, .null, .null, .null, .null, .int 0, .int 0]))] : va_W))) hS hA (fun u12 H locs hu hPn hDn hS => ?_)
  have hu : (u12 0) = q11 := hu
  subst hu
  have hP := vP_perm hPn (List.perm_append_comm (l₁ := (cD cy u12 z0 : va_W)) (l₂ := (([(b, .inr (2, [.ref q1, .ref q2, .ref q3, .ref q4, .ref q5, .ref q6, .int 0, .int 0, .int 0, .int 0, .int 0])), (q1, .inl (cy 0, 3, .inl (upd (upd (upd (fun _ => (0 : Int32)) 0 (4 : Int32)) 1 (2 : Int32)) 2 (2 : Int32)))), (q2, .inl (cy 2, 2, .inr (.inr (.inr (.inr (va_up (fun _ => none) 0 (some (u9 0)))))))), (q3, .inl (cy 0, 26, .inl (fun _ => (0 : Int32)))), (q4, .inl (cy 0, 26, .inl (fun _ => (0 : Int32)))), (q5, .inl (cy 0, 26, .inl (fun _ => (0 : Int32)))), (q6, .inl (cy 0, 26, .inl (fun _ => (0 : Int32))))] ++ cD cy u9 z0) : va_W)))
  have hD := vD_perm hDn (List.perm_append_comm (l₁ := (cD cy u12 z0 : va_W)) (l₂ := (([(b, .inr (2, [.ref q1, .ref q2, .ref q3, .ref q4, .ref q5, .ref q6, .int 0, .int 0, .int 0, .int 0, .int 0])), (q1, .inl (cy 0, 3, .inl (upd (upd (upd (fun _ => (0 : Int32)) 0 (4 : Int32)) 1 (2 : Int32)) 2 (2 : Int32)))), (q2, .inl (cy 2, 2, .inr (.inr (.inr (.inr (va_up (fun _ => none) 0 (some (u9 0)))))))), (q3, .inl (cy 0, 26, .inl (fun _ => (0 : Int32)))), (q4, .inl (cy 0, 26, .inl (fun _ => (0 : Int32)))), (q5, .inl (cy 0, 26, .inl (fun _ => (0 : Int32)))), (q6, .inl (cy 0, 26, .inl (fun _ => (0 : Int32))))] ++ cD cy u9 z0) : va_W)))
  have hP : va_P D vwCl ([(b, .inr (2, [.ref q1, .ref q2, .ref q3, .ref q4, .ref q5, .ref q6, .int 0, .int 0, .int 0, .int 0, .int 0])), (q1, .inl (cy 0, 3, .inl (upd (upd (upd (fun _ => (0 : Int32)) 0 (4 : Int32)) 1 (2 : Int32)) 2 (2 : Int32)))), (q2, .inl (cy 2, 2, .inr (.inr (.inr (.inr (va_up (fun _ => none) 0 (some (u9 0)))))))), (q3, .inl (cy 0, 26, .inl (fun _ => (0 : Int32)))), (q4, .inl (cy 0, 26, .inl (fun _ => (0 : Int32)))), (q5, .inl (cy 0, 26, .inl (fun _ => (0 : Int32)))), (q6, .inl (cy 0, 26, .inl (fun _ => (0 : Int32))))] ++ cD cy u9 z0 ++ cD cy u12 z0) H := hP
  have hD : va_D A ([(b, .inr (2, [.ref q1, .ref q2, .ref q3, .ref q4, .ref q5, .ref q6, .int 0, .int 0, .int 0, .int 0, .int 0])), (q1, .inl (cy 0, 3, .inl (upd (upd (upd (fun _ => (0 : Int32)) 0 (4 : Int32)) 1 (2 : Int32)) 2 (2 : Int32)))), (q2, .inl (cy 2, 2, .inr (.inr (.inr (.inr (va_up (fun _ => none) 0 (some (u9 0)))))))), (q3, .inl (cy 0, 26, .inl (fun _ => (0 : Int32)))), (q4, .inl (cy 0, 26, .inl (fun _ => (0 : Int32)))), (q5, .inl (cy 0, 26, .inl (fun _ => (0 : Int32)))), (q6, .inl (cy 0, 26, .inl (fun _ => (0 : Int32))))] ++ cD cy u9 z0 ++ cD cy u12 z0) := hD
  refine va_astq (r := (RX0, TX0, 8)) hx hb hK hP hD hS 2 2 14 0 rfl rfl rfl rfl (vp_c (by decide)) dX3_init_91 (fun H locs hP hD hS => ?_)
  have hP : va_P D vwCl ([(b, .inr (2, [.ref q1, .ref q2, .ref q3, .ref q4, .ref q5, .ref q6, .int 0, .int 0, .int 0, .int 0, .int 0])), (q1, .inl (cy 0, 3, .inl (upd (upd (upd (fun _ => (0 : Int32)) 0 (4 : Int32)) 1 (2 : Int32)) 2 (2 : Int32)))), (q2, .inl (cy 2, 2, .inr (.inr (.inr (.inr (va_up (va_up (fun _ => none) 0 (some (u9 0))) 1 (some (u12 0)))))))), (q3, .inl (cy 0, 26, .inl (fun _ => (0 : Int32)))), (q4, .inl (cy 0, 26, .inl (fun _ => (0 : Int32)))), (q5, .inl (cy 0, 26, .inl (fun _ => (0 : Int32)))), (q6, .inl (cy 0, 26, .inl (fun _ => (0 : Int32))))] ++ cD cy u9 z0 ++ cD cy u12 z0) H := hP
  have hD : va_D A ([(b, .inr (2, [.ref q1, .ref q2, .ref q3, .ref q4, .ref q5, .ref q6, .int 0, .int 0, .int 0, .int 0, .int 0])), (q1, .inl (cy 0, 3, .inl (upd (upd (upd (fun _ => (0 : Int32)) 0 (4 : Int32)) 1 (2 : Int32)) 2 (2 : Int32)))), (q2, .inl (cy 2, 2, .inr (.inr (.inr (.inr (va_up (va_up (fun _ => none) 0 (some (u9 0))) 1 (some (u12 0)))))))), (q3, .inl (cy 0, 26, .inl (fun _ => (0 : Int32)))), (q4, .inl (cy 0, 26, .inl (fun _ => (0 : Int32)))), (q5, .inl (cy 0, 26, .inl (fun _ => (0 : Int32)))), (q6, .inl (cy 0, 26, .inl (fun _ => (0 : Int32))))] ++ cD cy u9 z0 ++ cD cy u12 z0) := hD
  refine lv_iinc (v := (2 : Int32)) (lv' := [(1, .int (2 : Int32)), (0, .ref b)]) hx hb dX3_init_92 hl (k := 0) rfl (by decide) (by decide) rfl (fun ls hl => ?_)
  refine lv_goto (tgt := 74) hx hb dX3_init_95 (by decide) ?_
  refine lv_iload_n hx hb dX3_init_74 rfl (lv_at hl 0 rfl) ?_
  refine lv_iconst (v := 2) hx hb dX3_init_75 (by decide) ?_
  refine lv_icmp_ge (tgt := 98) hx hb dX3_init_76 (by decide) (fun c_13 => ?_) (fun c_13 => absurd (by decide) c_13)
  refine lv_aload_n hx hb dX3_init_98 rfl (lv_at hl 1 rfl) ?_
  refine va_get (D := D) (ci := 2) (v := .ref q2) (C := RX3) (T := TX3) (N := 11) hx hb hts inX3_init_X3 hown hK hP 0 rfl rfl 1 (by decide) (hts _ (List.mem_of_getElem? (i := 7) rfl)) (fun _ h9 => h9) rfl dX3_init_99 ?_
  refine lv_iconst (v := 1) hx hb dX3_init_102 (by decide) ?_
  refine x_aldq (v := .ref (u12 0)) hx hb hK hP 2 2 rfl rfl (vp_c (by decide)) rfl dX3_init_103 ?_
  refine va_get (D := D) (ci := 0) (v := .ref (u12 1)) (C := RX0) (T := TX0) (N := 8) hx hb hts inX3_init_X0 hown hK hP 14 rfl rfl 0 (by decide) (hts _ (List.mem_of_getElem? (i := 14) rfl)) (fun _ h9 => h9) rfl dX3_init_104 ?_
  refine lv_iconst (v := 0) hx hb dX3_init_107 (by decide) ?_
  refine lv_iconst (v := 3) hx hb dX3_init_108 (by decide) ?_
  refine x_iast (j := 0) hx hb hK hP hD hS 15 0 rfl rfl rfl (vp_c (by decide)) dX3_init_109 (fun H locs hP hD hS => ?_)
  have hP : va_P D vwCl ([(b, .inr (2, [.ref q1, .ref q2, .ref q3, .ref q4, .ref q5, .ref q6, .int 0, .int 0, .int 0, .int 0, .int 0])), (q1, .inl (cy 0, 3, .inl (upd (upd (upd (fun _ => (0 : Int32)) 0 (4 : Int32)) 1 (2 : Int32)) 2 (2 : Int32)))), (q2, .inl (cy 2, 2, .inr (.inr (.inr (.inr (va_up (va_up (fun _ => none) 0 (some (u9 0))) 1 (some (u12 0)))))))), (q3, .inl (cy 0, 26, .inl (fun _ => (0 : Int32)))), (q4, .inl (cy 0, 26, .inl (fun _ => (0 : Int32)))), (q5, .inl (cy 0, 26, .inl (fun _ => (0 : Int32)))), (q6, .inl (cy 0, 26, .inl (fun _ => (0 : Int32))))] ++ cD cy u9 z0 ++ cD cy u12 (mkD (upd (z0 0) 0 (3 : Int32)) (z0 1) (z0 2) (z0 3) (z0 4) (z0 5) 0 0)) H := hP
  have hD : va_D A ([(b, .inr (2, [.ref q1, .ref q2, .ref q3, .ref q4, .ref q5, .ref q6, .int 0, .int 0, .int 0, .int 0, .int 0])), (q1, .inl (cy 0, 3, .inl (upd (upd (upd (fun _ => (0 : Int32)) 0 (4 : Int32)) 1 (2 : Int32)) 2 (2 : Int32)))), (q2, .inl (cy 2, 2, .inr (.inr (.inr (.inr (va_up (va_up (fun _ => none) 0 (some (u9 0))) 1 (some (u12 0)))))))), (q3, .inl (cy 0, 26, .inl (fun _ => (0 : Int32)))), (q4, .inl (cy 0, 26, .inl (fun _ => (0 : Int32)))), (q5, .inl (cy 0, 26, .inl (fun _ => (0 : Int32)))), (q6, .inl (cy 0, 26, .inl (fun _ => (0 : Int32))))] ++ cD cy u9 z0 ++ cD cy u12 (mkD (upd (z0 0) 0 (3 : Int32)) (z0 1) (z0 2) (z0 3) (z0 4) (z0 5) 0 0)) := hD
  refine lv_aload_n hx hb dX3_init_110 rfl (lv_at hl 1 rfl) ?_
  refine va_get (D := D) (ci := 2) (v := .ref q2) (C := RX3) (T := TX3) (N := 11) hx hb hts inX3_init_X3 hown hK hP 0 rfl rfl 1 (by decide) (hts _ (List.mem_of_getElem? (i := 7) rfl)) (fun _ h9 => h9) rfl dX3_init_111 ?_
  refine lv_iconst (v := 1) hx hb dX3_init_114 (by decide) ?_
  refine x_aldq (v := .ref (u12 0)) hx hb hK hP 2 2 rfl rfl (vp_c (by decide)) rfl dX3_init_115 ?_
  refine va_get (D := D) (ci := 0) (v := .ref (u12 1)) (C := RX0) (T := TX0) (N := 8) hx hb hts inX3_init_X0 hown hK hP 14 rfl rfl 0 (by decide) (hts _ (List.mem_of_getElem? (i := 14) rfl)) (fun _ h9 => h9) rfl dX3_init_116 ?_
  refine lv_iconst (v := 1) hx hb dX3_init_119 (by decide) ?_
  refine lv_iconst (v := 4) hx hb dX3_init_120 (by decide) ?_
  refine x_iast (j := 1) hx hb hK hP hD hS 15 0 rfl rfl rfl (vp_c (by decide)) dX3_init_121 (fun H locs hP hD hS => ?_)
  have hP : va_P D vwCl ([(b, .inr (2, [.ref q1, .ref q2, .ref q3, .ref q4, .ref q5, .ref q6, .int 0, .int 0, .int 0, .int 0, .int 0])), (q1, .inl (cy 0, 3, .inl (upd (upd (upd (fun _ => (0 : Int32)) 0 (4 : Int32)) 1 (2 : Int32)) 2 (2 : Int32)))), (q2, .inl (cy 2, 2, .inr (.inr (.inr (.inr (va_up (va_up (fun _ => none) 0 (some (u9 0))) 1 (some (u12 0)))))))), (q3, .inl (cy 0, 26, .inl (fun _ => (0 : Int32)))), (q4, .inl (cy 0, 26, .inl (fun _ => (0 : Int32)))), (q5, .inl (cy 0, 26, .inl (fun _ => (0 : Int32)))), (q6, .inl (cy 0, 26, .inl (fun _ => (0 : Int32))))] ++ cD cy u9 z0 ++ cD cy u12 (mkD (upd (upd (z0 0) 0 (3 : Int32)) 1 (4 : Int32)) (z0 1) (z0 2) (z0 3) (z0 4) (z0 5) 0 0)) H := hP
  have hD : va_D A ([(b, .inr (2, [.ref q1, .ref q2, .ref q3, .ref q4, .ref q5, .ref q6, .int 0, .int 0, .int 0, .int 0, .int 0])), (q1, .inl (cy 0, 3, .inl (upd (upd (upd (fun _ => (0 : Int32)) 0 (4 : Int32)) 1 (2 : Int32)) 2 (2 : Int32)))), (q2, .inl (cy 2, 2, .inr (.inr (.inr (.inr (va_up (va_up (fun _ => none) 0 (some (u9 0))) 1 (some (u12 0)))))))), (q3, .inl (cy 0, 26, .inl (fun _ => (0 : Int32)))), (q4, .inl (cy 0, 26, .inl (fun _ => (0 : Int32)))), (q5, .inl (cy 0, 26, .inl (fun _ => (0 : Int32)))), (q6, .inl (cy 0, 26, .inl (fun _ => (0 : Int32))))] ++ cD cy u9 z0 ++ cD cy u12 (mkD (upd (upd (z0 0) 0 (3 : Int32)) 1 (4 : Int32)) (z0 1) (z0 2) (z0 3) (z0 4) (z0 5) 0 0)) := hD
  refine lv_aload_n hx hb dX3_init_122 rfl (lv_at hl 1 rfl) ?_
  have hP := vP_rowq hP 2 (g := fun d => if d = 0 then some (u9 0) else some (u12 0)) rfl (fun j hj => by rcases (show j = 0 ∨ j = 1 by omega) with rfl | rfl <;> rfl)
  have hD := vD_rowq hD 2 (y := .inl (cy 2, 2, .inr (.inr (.inr (.inr (fun d => if d = 0 then some (u9 0) else some (u12 0))))))) rfl
  have hP : va_P D vwCl (cS cy (aS (l7 b q1 q2 q3 q4 q5 q6) u9 u12) v00) H := hP
  have hD : va_D A (cS cy (aS (l7 b q1 q2 q3 q4 q5 q6) u9 u12) v00) := hD
  refine cl_n (va_runV (As := []) (rest := []) ⟨hx, hb, hml, hown, hts⟩ (c_X3_beginAnew l D cy (aS (l7 b q1 q2 q3 q4 q5 q6) u9 u12) v00 H.size) (cwV 0 hts gX3_init_X3_beginAnew rfl rfl rfl (by decide +kernel) ⟨Nat.le_of_ble_eq_true rfl, Nat.le_of_ble_eq_true rfl⟩) ⟨blU, va_recv hK hP (ci := 2) (q0 := 0) rfl rfl, preU hP hD (pmI _) hK hE hS hA⟩ rfl rfl hl.1 rfl (lv_room (Nat.le_of_ble_eq_true rfl)) dX3_init_123 ⟨Nat.le_of_ble_eq_true rfl, Nat.le_of_ble_eq_true rfl⟩) hP hD (pmI _) hS hA (fun H locs hP hD hS => ?_)
  have hP : va_P D vwCl (cS cy (aS (l7 b q1 q2 q3 q4 q5 q6) u9 u12) vI) H := vP_perm hP (pmI _).symm
  have hD : va_D A (cS cy (aS (l7 b q1 q2 q3 q4 q5 q6) u9 u12) vI) := vD_perm hD (pmI _).symm
  exact hret (aS (l7 b q1 q2 q3 q4 q5 q6) u9 u12) H locs _ ls rfl hP hD hS dX3_init_126

def bRI (cy : Nat → ClassId) (ar : Nat → Nat → Nat → Nat) (i : Nat) : va_W := ((List.range i).map (fun j => cS cy (ar j) vI)).flatten
def ringf (ar : Nat → Nat → Nat → Nat) (i : Nat) : Nat → Option Nat := fun j => if j < i then some (ar j 0 0) else none
theorem pmS {α : Type} (S h r : List α) : (S ++ (h ++ r)).Perm ((h ++ S) ++ r) := by
  rw [← List.append_assoc]
  exact List.perm_append_comm.append_right r
theorem pmE {α : Type} (h S r : List α) : ((h ++ S) ++ r).Perm (h ++ (r ++ S)) := by
  rw [List.append_assoc]
  exact List.perm_append_comm.append_left h
theorem bRI_s (cy : Nat → ClassId) (ar : Nat → Nat → Nat → Nat) (i : Nat) (u : Nat → Nat → Nat) : bRI cy (va_up ar i u) (i + 1) = bRI cy ar i ++ cS cy u vI := by
  unfold bRI
  rw [List.range_succ, List.map_append, List.flatten_append]
  have h1 : (List.range i).map (fun j => cS cy (va_up ar i u j) vI) = (List.range i).map (fun j => cS cy (ar j) vI) := by
    apply List.map_congr_left
    intro j hj
    have hj := List.mem_range.mp hj
    rw [va_up_ne ar u (show j ≠ i by omega)]
  rw [h1]
  simp [va_up_self]
theorem ringf_s (ar : Nat → Nat → Nat → Nat) (i : Nat) (u : Nat → Nat → Nat) : va_up (ringf ar i) i (some (u 0 0)) = ringf (va_up ar i u) (i + 1) := by
  funext j
  unfold ringf
  by_cases h : j = i
  · subst h
    rw [va_up_self, va_up_self, if_pos (by omega)]
  · rw [va_up_ne _ _ h, va_up_ne _ _ h]
    by_cases h2 : j < i
    · rw [if_pos h2, if_pos (by omega)]
    · rw [if_neg h2, if_neg (by omega)]

abbrev rX1_init : Room := { frames := 4, cells := 295, slots := 9898, locals := 86 }
theorem inX1_init_X1 : ∀ w ∈ u_ws RX1 TX1 3, w ∈ wsX1_init := by decide +kernel
theorem inX1_init_X3 : ∀ w ∈ u_ws RX3 TX3 11, w ∈ wsX1_init := by decide +kernel
set_option maxHeartbeats 4000000 in
set_option maxRecDepth 100000 in
theorem c_X1_init (l : Launch) (D : va_G) (cy : Nat → ClassId) (b : Nat) (sz : Nat) : CE l yX1_init wsX1_init rX1_init D cy [.ref b] [(b, .inr (1, [.null, .int 0, .int 0]))] sz (fun (u : (Nat → Nat) × (Nat → Nat → Nat → Nat)) => u.1 0 = b) (fun u => cH cy u.1 u.2 (0, 0, fun _ => vI)) 295 9898 := by
  refine st_e (cc := cX1_init) (maxL := 2) (by decide) rfl rfl (Nat.le_of_ble_eq_true rfl) ?_
  intro pp e s m below meth c A Q ls hx hb hts hown hml hlocks hin hsz hP hK hD hE hA hl hret
  subst hsz
  have hown : s.vm.findClass RX1 = some m.cls := hown
  have hl : lv_has ls 2 [(0, .ref b)] := hl
  obtain ⟨H, hH⟩ : ∃ H, H = s.heap := ⟨_, rfl⟩
  rw [← hH] at hP ⊢
  have hS : va_S A s.heap H [] := by rw [hH]; exact va_S.rf
  obtain ⟨locs, hlo⟩ : ∃ locs : List Loc, locs = [] := ⟨_, rfl⟩
  rw [← hlo] at hS ⊢
  refine lv_aload_n hx hb dX1_init_0 rfl (lv_at hl 0 rfl) ?_
  refine W.objInit hx hb hown (hts _ (List.mem_of_getElem? (i := 1) rfl)) (hts _ (List.mem_of_getElem? (i := 2) rfl)) (hts _ (List.mem_of_getElem? (i := 3) rfl)) rfl (by rw [hml]; exact hl.1) rfl dX1_init_1 (Nat.le_of_ble_eq_true rfl) (Nat.le_of_ble_eq_true rfl) ?_
  refine W.eq (g2 := F0 m 4 ls []) rfl ?_
  refine lv_aload_n hx hb dX1_init_4 rfl (lv_at hl 0 rfl) ?_
  refine lv_bipush (v := 14) hx hb dX1_init_5 (by decide) ?_
  refine va_newq hx hb hown (hts _ (List.mem_of_getElem? (i := 4) rfl)) hE.2.2.2.2.2.2.2.2.2.2.2.2.2.2.1 hK hP hD hS hA (by decide) (show ((14 : Int32)).toNatClampNeg = 14 from by decide) (by decide) (Nat.le_of_ble_eq_true rfl) (Nat.le_of_ble_eq_true rfl) dX1_init_7 (fun q1 cA H hKn hP hD hS => ?_)
  have hcA := cA_s hKn
  subst hcA
  clear hKn
  have hP : va_P D vwCl ([(b, .inr (1, [.null, .int 0, .int 0])), (q1, .inl (cy 3, 14, .inr (.inr (.inr (.inr (fun _ => none))))))]) H := hP
  have hD : va_D A ([(b, .inr (1, [.null, .int 0, .int 0])), (q1, .inl (cy 3, 14, .inr (.inr (.inr (.inr (fun _ => none))))))]) := hD
  refine va_putF (D := D) (ci := 1) (v := .ref q1) (ty := tyX1 0) (C := RX1) (T := TX1) (N := 3) hx hb hts inX1_init_X1 tyX1 tyX1_ok nmX1 hown hK hP hD hS 0 rfl rfl 0 (by decide) (hts _ (List.mem_of_getElem? (i := 5) rfl)) (fun _ h9 => h9) rfl hin rfl (by decide +kernel) rfl rfl (Nat.le_of_ble_eq_true rfl) dX1_init_10 (fun H locs hP hD hS => ?_)
  have hP : va_P D vwCl ([(b, .inr (1, [.ref q1, .int 0, .int 0])), (q1, .inl (cy 3, 14, .inr (.inr (.inr (.inr (fun _ => none))))))]) H := hP
  have hD : va_D A ([(b, .inr (1, [.ref q1, .int 0, .int 0])), (q1, .inl (cy 3, 14, .inr (.inr (.inr (.inr (fun _ => none))))))]) := hD
  refine lv_iconst (v := 0) hx hb dX1_init_13 (by decide) ?_
  refine lv_istore_n (lv' := [(1, .int (0 : Int32)), (0, .ref b)]) hx hb dX1_init_14 rfl hl (by decide) rfl (fun ls hl => ?_)
  have hloop : ∀ (k i : Nat) (ar : Nat → Nat → Nat → Nat), i + k = 14 → ∀ (H : Heap) (locs : List Loc), va_P D vwCl ([(b, .inr (1, [.ref q1, .int 0, .int 0])), (q1, .inl (cy 3, 14, .inr (.inr (.inr (.inr (ringf ar i))))))] ++ bRI cy ar i) H → va_D A ([(b, .inr (1, [.ref q1, .int 0, .int 0])), (q1, .inl (cy 3, 14, .inr (.inr (.inr (.inr (ringf ar i))))))] ++ bRI cy ar i) → va_S A s.heap H locs → ∀ ls : Array Slot, lv_has ls 2 [(0, .ref b), (1, .int (nI i))] → W pp l e rX1_init s m ([.ref b] : List Value).toArray below meth c H locs (1 + i * 21) (14 + i * 706) Q (F0 m 15 ls []) := by
    intro k
    induction k with
    | zero =>
      intro i ar hik H locs hP hD hS ls hl
      have hi : i = 14 := by omega
      subst hi
      refine lv_iload_n hx hb dX1_init_15 rfl (lv_at hl 1 rfl) ?_
      refine lv_bipush (v := 14) hx hb dX1_init_16 (by decide) ?_
      refine lv_icmp_ge (tgt := 40) hx hb dX1_init_18 (by decide) (fun c_2 => ?_) (fun c_2 => absurd (show (14 : Int32) ≤ nI 14 from by decide) c_2)
      have hP := vP_rowq hP 1 (g := fun i => some (ar i 0 0)) rfl (fun j hj => if_pos hj)
      have hD := vD_rowq hD 1 (y := .inl (cy 3, 14, .inr (.inr (.inr (.inr (fun i => some (ar i 0 0))))))) rfl
      exact hret (l7 b q1 0 0 0 0 0, ar) H locs _ ls rfl hP hD hS dX1_init_40
    | succ k ih =>
      intro i ar hik H locs hP hD hS ls hl
      refine lv_iload_n hx hb dX1_init_15 rfl (lv_at hl 1 rfl) ?_
      refine lv_bipush (v := 14) hx hb dX1_init_16 (by decide) ?_
      refine lv_icmp_ge (tgt := 40) hx hb dX1_init_18 (by decide) (fun c_3 => absurd c_3 (nI_ge (a := i) (b := 14) (by omega) (by decide))) (fun c_3 => ?_)
      refine lv_aload_n hx hb dX1_init_21 rfl (lv_at hl 0 rfl) ?_
      refine va_get (D := D) (ci := 1) (v := .ref q1) (C := RX1) (T := TX1) (N := 3) hx hb hts inX1_init_X1 hown hK hP 0 rfl rfl 0 (by decide) (hts _ (List.mem_of_getElem? (i := 5) rfl)) (fun _ h9 => h9) rfl dX1_init_22 ?_
      refine lv_iload_n hx hb dX1_init_25 rfl (lv_at hl 1 rfl) ?_
      refine va_new (ci := 2) (fs := [.null, .null, .null, .null, .null, .null, .int 0, .int 0, .int 0, .int 0, .int 0]) (C := RX3) (T := TX3) (N := 11) hx hb hts inX1_init_X3 tyX3 tyX3_ok hown (hts _ (List.mem_of_getElem? (i := 4) rfl)) (hts _ (List.mem_of_getElem? (i := 6) rfl)) (hts _ (List.mem_of_getElem? (i := 7) rfl)) hK hP hD hS hA rfl (fun j hj => by rcases (show j = 0 ∨ j = 1 ∨ j = 2 ∨ j = 3 ∨ j = 4 ∨ j = 5 ∨ j = 6 ∨ j = 7 ∨ j = 8 ∨ j = 9 ∨ j = 10 by omega) with rfl | rfl | rfl | rfl | rfl | rfl | rfl | rfl | rfl | rfl | rfl <;> rfl) (by have e1 : rX1_init.cells = 295 := rfl; have e2 : rX1_init.slots = 9898 := rfl; omega) (by have e1 : rX1_init.cells = 295 := rfl; have e2 : rX1_init.slots = 9898 := rfl; omega) dX1_init_26 (fun q4 H hP hD hS => ?_)
      have hP : va_P D vwCl ([(b, .inr (1, [.ref q1, .int 0, .int 0])), (q1, .inl (cy 3, 14, .inr (.inr (.inr (.inr (ringf ar i))))))] ++ bRI cy ar i ++ [(q4, .inr (2, [.null, .null, .null, .null, .null, .null, .int 0, .int 0, .int 0, .int 0, .int 0]))]) H := hP
      have hD : va_D A ([(b, .inr (1, [.ref q1, .int 0, .int 0])), (q1, .inl (cy 3, 14, .inr (.inr (.inr (.inr (ringf ar i))))))] ++ bRI cy ar i ++ [(q4, .inr (2, [.null, .null, .null, .null, .null, .null, .int 0, .int 0, .int 0, .int 0, .int 0]))]) := hD
      refine lv_dup hx hb dX1_init_29 rfl ?_
      refine cl_e (va_runI (As := []) (rest := [.ref q4, .int (nI i), .ref q1]) ⟨hx, hb, hml, hown, hts⟩ (c_X3_init l D cy q4 H.size) (cwI 0 hts gX1_init_X3_init rfl rfl rfl (hts _ (List.mem_of_getElem? (i := 7) rfl)) (hts _ (List.mem_of_getElem? (i := 8) rfl)) (hts _ (List.mem_of_getElem? (i := 9) rfl)) rfl (by decide +kernel) ⟨Nat.le_of_ble_eq_true rfl, Nat.le_of_ble_eq_true rfl⟩) ⟨blU, preU hP hD (List.perm_append_comm (l₁ := (([(b, .inr (1, [.ref q1, .int 0, .int 0])), (q1, .inl (cy 3, 14, .inr (.inr (.inr (.inr (ringf ar i))))))] ++ bRI cy ar i) : va_W)) (l₂ := ([(q4, .inr (2, [.null, .null, .null, .null, .null, .null, .int 0, .int 0, .int 0, .int 0, .int 0]))] : va_W))) hK hE hS hA⟩ rfl rfl hl.1 rfl (lv_room (Nat.le_of_ble_eq_true rfl)) dX1_init_30 ⟨by have e1 : rX1_init.cells = 295 := rfl; have e2 : rX1_init.slots = 9898 := rfl; omega, by have e1 : rX1_init.cells = 295 := rfl; have e2 : rX1_init.slots = 9898 := rfl; omega⟩) hP hD (List.perm_append_comm (l₁ := (([(b, .inr (1, [.ref q1, .int 0, .int 0])), (q1, .inl (cy 3, 14, .inr (.inr (.inr (.inr (ringf ar i))))))] ++ bRI cy ar i) : va_W)) (l₂ := ([(q4, .inr (2, [.null, .null, .null, .null, .null, .null, .int 0, .int 0, .int 0, .int 0, .int 0]))] : va_W))) hS hA (fun u5 H locs hu hPn hDn hS => ?_)
      have hu : (u5 0 0) = q4 := hu
      subst hu
      have hP := vP_perm hPn (pmS (cS cy u5 vI : va_W) (([(b, .inr (1, [.ref q1, .int 0, .int 0])), (q1, .inl (cy 3, 14, .inr (.inr (.inr (.inr (ringf ar i))))))]) : va_W) ((bRI cy ar i) : va_W))
      have hD := vD_perm hDn (pmS (cS cy u5 vI : va_W) (([(b, .inr (1, [.ref q1, .int 0, .int 0])), (q1, .inl (cy 3, 14, .inr (.inr (.inr (.inr (ringf ar i))))))]) : va_W) ((bRI cy ar i) : va_W))
      have hP : va_P D vwCl ([(b, .inr (1, [.ref q1, .int 0, .int 0])), (q1, .inl (cy 3, 14, .inr (.inr (.inr (.inr (ringf ar i))))))] ++ cS cy u5 vI ++ bRI cy ar i) H := hP
      have hD : va_D A ([(b, .inr (1, [.ref q1, .int 0, .int 0])), (q1, .inl (cy 3, 14, .inr (.inr (.inr (.inr (ringf ar i))))))] ++ cS cy u5 vI ++ bRI cy ar i) := hD
      refine va_astq (r := (RX3, TX3, 11)) hx hb hK hP hD hS 1 3 2 2 rfl rfl rfl rfl (vp_in_nI (by omega) (by decide)) dX1_init_33 (fun H locs hP hD hS => ?_)
      have hP : va_P D vwCl ([(b, .inr (1, [.ref q1, .int 0, .int 0])), (q1, .inl (cy 3, 14, .inr (.inr (.inr (.inr (va_up (ringf ar i) (nI i).toNatClampNeg (some (u5 0 0))))))))] ++ cS cy u5 vI ++ bRI cy ar i) H := hP
      have hD : va_D A ([(b, .inr (1, [.ref q1, .int 0, .int 0])), (q1, .inl (cy 3, 14, .inr (.inr (.inr (.inr (va_up (ringf ar i) (nI i).toNatClampNeg (some (u5 0 0))))))))] ++ cS cy u5 vI ++ bRI cy ar i) := hD
      have hP : va_P D vwCl (([(b, .inr (1, [.ref q1, .int 0, .int 0])), (q1, .inl (cy 3, 14, .inr (.inr (.inr (.inr (va_up (ringf ar i) (nI i).toNatClampNeg (some (u5 0 0))))))))]) ++ (bRI cy ar i ++ cS cy u5 vI)) H := vP_perm hP (pmE _ _ _)
      rw [nI_clamp (n := i) (by omega), ringf_s, ← bRI_s] at hP
      have hD : va_D A (([(b, .inr (1, [.ref q1, .int 0, .int 0])), (q1, .inl (cy 3, 14, .inr (.inr (.inr (.inr (va_up (ringf ar i) (nI i).toNatClampNeg (some (u5 0 0))))))))]) ++ (bRI cy ar i ++ cS cy u5 vI)) := vD_perm hD (pmE _ _ _)
      rw [nI_clamp (n := i) (by omega), ringf_s, ← bRI_s] at hD
      refine lv_iinc (v := (nI (i + 1))) (lv' := [(1, .int (nI (i + 1))), (0, .ref b)]) hx hb dX1_init_34 hl (k := 1) rfl (nI_1 i) (by decide) rfl (fun ls hl => ?_)
      refine lv_goto (tgt := 15) hx hb dX1_init_37 (by decide) ?_
      refine W.widen (k := 1 + (i + 1) * 21) (n := 14 + (i + 1) * 706) (by omega) (by omega) ?_
      exact ih (i + 1) (va_up ar i u5) (by omega) H locs hP hD hS ls (lv_sub hl [1, 0] rfl)
  have hP := vP_rowq hP 1 (g := ringf (fun _ _ _ => 0) 0) rfl (fun j _ => (if_neg (Nat.not_lt_zero j)).symm)
  have hD := vD_rowq hD 1 (y := .inl (cy 3, 14, .inr (.inr (.inr (.inr (ringf (fun _ _ _ => 0) 0)))))) rfl
  exact hloop 14 0 (fun _ _ _ => 0) rfl H locs hP hD hS ls (lv_sub hl [1, 0] rfl)

theorem pm9 {α : Type} (a b c d e f g h i : α) : [a, b, c, d, e, f, g, h, i].Perm [a, f, i, b, c, d, g, h, e] :=
  List.Perm.cons a ((List.perm_middle (a := f) (l₁ := [b, c, d, e]) (l₂ := [g, h, i])).trans (List.Perm.cons f ((List.perm_middle (a := i) (l₁ := [b, c, d, e, g, h]) (l₂ := [])).trans (List.Perm.cons i (List.Perm.cons b (List.Perm.cons c (List.Perm.cons d (List.perm_middle (a := e) (l₁ := [g, h]) (l₂ := [])).symm)))))))
theorem pm9f {α : Type} (a b c d e f g h i : List α) : (a ++ b ++ c ++ d ++ e ++ f ++ g ++ h ++ i).Perm [a, f, i, b, c, d, g, h, e].flatten := by
  have h1 : a ++ b ++ c ++ d ++ e ++ f ++ g ++ h ++ i = [a, b, c, d, e, f, g, h, i].flatten := by simp [List.append_assoc]
  rw [h1]
  exact pmF (pm9 a b c d e f g h i)
def mkAD (hd tx hi : Nat → Nat) (s t u v : Nat → Nat → Nat) (ar : Nat → Nat → Nat → Nat) : AD := fun k => match k with
  | 0 => aS hd tx hi
  | 1 => s
  | 2 => t
  | 3 => u
  | 4 => v
  | j + 5 => ar j
/-- the object as it is made -/
def bI : BV := (z0, vI, vI, vI, vI, (0, 0, fun _ => vI), fun _ => 0)

abbrev rX5_init : Room := { frames := 5, cells := 386, slots := 13121, locals := 107 }
theorem inX5_init_X1 : ∀ w ∈ u_ws RX1 TX1 3, w ∈ wsX5_init := by decide +kernel
theorem inX5_init_X3 : ∀ w ∈ u_ws RX3 TX3 11, w ∈ wsX5_init := by decide +kernel
theorem inX5_init_X4 : ∀ w ∈ u_ws RX4 TX4 8, w ∈ wsX5_init := by decide +kernel
theorem inX5_init_X5 : ∀ w ∈ u_ws RX5 TX5 6, w ∈ wsX5_init := by decide +kernel
set_option maxHeartbeats 4000000 in
set_option maxRecDepth 100000 in
theorem c_X5_init (l : Launch) (D : va_G) (cy : Nat → ClassId) (b : Nat) (sz : Nat) : CE l yX5_init wsX5_init rX5_init D cy [.ref b] [(b, .inr (4, [.null, .null, .null, .null, .null, .null]))] sz (fun (u : AD) => u 0 0 0 = b) (fun u => wB cy u bI) 386 13121 := by
  refine st_e (cc := cX5_init) (maxL := 2) (by decide) rfl rfl (Nat.le_of_ble_eq_true rfl) ?_
  intro pp e s m below meth c A Q ls hx hb hts hown hml hlocks hin hsz hP hK hD hE hA hl hret
  subst hsz
  have hown : s.vm.findClass RX5 = some m.cls := hown
  have hl : lv_has ls 2 [(0, .ref b)] := hl
  obtain ⟨H, hH⟩ : ∃ H, H = s.heap := ⟨_, rfl⟩
  rw [← hH] at hP ⊢
  have hS : va_S A s.heap H [] := by rw [hH]; exact va_S.rf
  obtain ⟨locs, hlo⟩ : ∃ locs : List Loc, locs = [] := ⟨_, rfl⟩
  rw [← hlo] at hS ⊢
  refine lv_aload_n hx hb dX5_init_0 rfl (lv_at hl 0 rfl) ?_
  refine W.objInit hx hb hown (hts _ (List.mem_of_getElem? (i := 1) rfl)) (hts _ (List.mem_of_getElem? (i := 2) rfl)) (hts _ (List.mem_of_getElem? (i := 3) rfl)) rfl (by rw [hml]; exact hl.1) rfl dX5_init_1 (Nat.le_of_ble_eq_true rfl) (Nat.le_of_ble_eq_true rfl) ?_
  refine W.eq (g2 := F0 m 4 ls []) rfl ?_
  refine lv_aload_n hx hb dX5_init_4 rfl (lv_at hl 0 rfl) ?_
  refine va_new (ci := 3) (fs := [.null, .int 0, .null, .int 0, .null, .int 0, .int 0, .int 0]) (C := RX4) (T := TX4) (N := 8) hx hb hts inX5_init_X4 tyX4 tyX4_ok hown (hts _ (List.mem_of_getElem? (i := 4) rfl)) (hts _ (List.mem_of_getElem? (i := 5) rfl)) (hts _ (List.mem_of_getElem? (i := 6) rfl)) hK hP hD hS hA rfl (fun j hj => by rcases (show j = 0 ∨ j = 1 ∨ j = 2 ∨ j = 3 ∨ j = 4 ∨ j = 5 ∨ j = 6 ∨ j = 7 by omega) with rfl | rfl | rfl | rfl | rfl | rfl | rfl | rfl <;> rfl) (Nat.le_of_ble_eq_true rfl) (Nat.le_of_ble_eq_true rfl) dX5_init_5 (fun q1 H hP hD hS => ?_)
  have hP : va_P D vwCl ([(b, .inr (4, [.null, .null, .null, .null, .null, .null])), (q1, .inr (3, [.null, .int 0, .null, .int 0, .null, .int 0, .int 0, .int 0]))]) H := hP
  have hD : va_D A ([(b, .inr (4, [.null, .null, .null, .null, .null, .null])), (q1, .inr (3, [.null, .int 0, .null, .int 0, .null, .int 0, .int 0, .int 0]))]) := hD
  refine lv_dup hx hb dX5_init_8 rfl ?_
  refine cl_e (va_runIN (As := []) (rest := [.ref q1, .ref b]) ⟨hx, hb, hml, hown, hts⟩ (c_X4_init l D cy q1 H.size) ⟨va_cnB 0 hts gX5_init_X4_init_n9 rfl rfl rfl hE.2.2.2.2.2.2.2.1 (hts _ (List.mem_of_getElem? (i := 6) rfl)) (by decide +kernel) ⟨Nat.le_of_ble_eq_true rfl, Nat.le_of_ble_eq_true rfl⟩, rfl, (hts _ (List.mem_of_getElem? (i := 20) rfl))⟩ ⟨blU, preU hP hD (List.perm_append_comm (l₁ := (([(b, .inr (4, [.null, .null, .null, .null, .null, .null]))]) : va_W)) (l₂ := ([(q1, .inr (3, [.null, .int 0, .null, .int 0, .null, .int 0, .int 0, .int 0]))] : va_W))) hK hE hS hA⟩ rfl rfl hl.1 rfl (lv_room (Nat.le_of_ble_eq_true rfl)) dX5_init_9 ⟨Nat.le_of_ble_eq_true rfl, Nat.le_of_ble_eq_true rfl⟩) hP hD (List.perm_append_comm (l₁ := (([(b, .inr (4, [.null, .null, .null, .null, .null, .null]))]) : va_W)) (l₂ := ([(q1, .inr (3, [.null, .int 0, .null, .int 0, .null, .int 0, .int 0, .int 0]))] : va_W))) hS hA (fun u2 H locs hu hPn hDn hS => ?_)
  have hu : (u2 0) = q1 := hu
  subst hu
  have hP := vP_perm hPn (List.perm_append_comm (l₁ := (cT cy u2 z0 : va_W)) (l₂ := (([(b, .inr (4, [.null, .null, .null, .null, .null, .null]))]) : va_W)))
  have hD := vD_perm hDn (List.perm_append_comm (l₁ := (cT cy u2 z0 : va_W)) (l₂ := (([(b, .inr (4, [.null, .null, .null, .null, .null, .null]))]) : va_W)))
  have hP : va_P D vwCl ([(b, .inr (4, [.null, .null, .null, .null, .null, .null]))] ++ cT cy u2 z0) H := hP
  have hD : va_D A ([(b, .inr (4, [.null, .null, .null, .null, .null, .null]))] ++ cT cy u2 z0) := hD
  refine va_putF (D := D) (ci := 4) (v := .ref (u2 0)) (ty := tyX5 0) (C := RX5) (T := TX5) (N := 6) hx hb hts inX5_init_X5 tyX5 tyX5_ok nmX5 hown hK hP hD hS 0 rfl rfl 0 (by decide) (hts _ (List.mem_of_getElem? (i := 7) rfl)) (fun _ h9 => h9) rfl hin rfl (by decide +kernel) rfl rfl (Nat.le_of_ble_eq_true rfl) dX5_init_12 (fun H locs hP hD hS => ?_)
  have hP : va_P D vwCl ([(b, .inr (4, [.ref (u2 0), .null, .null, .null, .null, .null]))] ++ cT cy u2 z0) H := hP
  have hD : va_D A ([(b, .inr (4, [.ref (u2 0), .null, .null, .null, .null, .null]))] ++ cT cy u2 z0) := hD
  refine lv_aload_n hx hb dX5_init_15 rfl (lv_at hl 0 rfl) ?_
  refine va_new (ci := 2) (fs := [.null, .null, .null, .null, .null, .null, .int 0, .int 0, .int 0, .int 0, .int 0]) (C := RX3) (T := TX3) (N := 11) hx hb hts inX5_init_X3 tyX3 tyX3_ok hown (hts _ (List.mem_of_getElem? (i := 8) rfl)) (hts _ (List.mem_of_getElem? (i := 9) rfl)) (hts _ (List.mem_of_getElem? (i := 10) rfl)) hK hP hD hS hA rfl (fun j hj => by rcases (show j = 0 ∨ j = 1 ∨ j = 2 ∨ j = 3 ∨ j = 4 ∨ j = 5 ∨ j = 6 ∨ j = 7 ∨ j = 8 ∨ j = 9 ∨ j = 10 by omega) with rfl | rfl | rfl | rfl | rfl | rfl | rfl | rfl | rfl | rfl | rfl <;> rfl) (Nat.le_of_ble_eq_true rfl) (Nat.le_of_ble_eq_true rfl) dX5_init_16 (fun q3 H hP hD hS => ?_)
  have hP : va_P D vwCl ([(b, .inr (4, [.ref (u2 0), .null, .null, .null, .null, .null]))] ++ cT cy u2 z0 ++ [(q3, .inr (2, [.null, .null, .null, .null, .null, .null, .int 0, .int 0, .int 0, .int 0, .int 0]))]) H := hP
  have hD : va_D A ([(b, .inr (4, [.ref (u2 0), .null, .null, .null, .null, .null]))] ++ cT cy u2 z0 ++ [(q3, .inr (2, [.null, .null, .null, .null, .null, .null, .int 0, .int 0, .int 0, .int 0, .int 0]))]) := hD
  refine lv_dup hx hb dX5_init_19 rfl ?_
  refine cl_e (va_runI (As := []) (rest := [.ref q3, .ref b]) ⟨hx, hb, hml, hown, hts⟩ (c_X3_init l D cy q3 H.size) (cwI 0 hts gX5_init_X3_init rfl rfl rfl (hts _ (List.mem_of_getElem? (i := 10) rfl)) (hts _ (List.mem_of_getElem? (i := 27) rfl)) (hts _ (List.mem_of_getElem? (i := 28) rfl)) rfl (by decide +kernel) ⟨Nat.le_of_ble_eq_true rfl, Nat.le_of_ble_eq_true rfl⟩) ⟨blU, preU hP hD (List.perm_append_comm (l₁ := (([(b, .inr (4, [.ref (u2 0), .null, .null, .null, .null, .null]))] ++ cT cy u2 z0) : va_W)) (l₂ := ([(q3, .inr (2, [.null, .null, .null, .null, .null, .null, .int 0, .int 0, .int 0, .int 0, .int 0]))] : va_W))) hK hE hS hA⟩ rfl rfl hl.1 rfl (lv_room (Nat.le_of_ble_eq_true rfl)) dX5_init_20 ⟨Nat.le_of_ble_eq_true rfl, Nat.le_of_ble_eq_true rfl⟩) hP hD (List.perm_append_comm (l₁ := (([(b, .inr (4, [.ref (u2 0), .null, .null, .null, .null, .null]))] ++ cT cy u2 z0) : va_W)) (l₂ := ([(q3, .inr (2, [.null, .null, .null, .null, .null, .null, .int 0, .int 0, .int 0, .int 0, .int 0]))] : va_W))) hS hA (fun u4 H locs hu hPn hDn hS => ?_)
  have hu : (u4 0 0) = q3 := hu
  subst hu
  have hP := vP_perm hPn (List.perm_append_comm (l₁ := (cS cy u4 vI : va_W)) (l₂ := (([(b, .inr (4, [.ref (u2 0), .null, .null, .null, .null, .null]))] ++ cT cy u2 z0) : va_W)))
  have hD := vD_perm hDn (List.perm_append_comm (l₁ := (cS cy u4 vI : va_W)) (l₂ := (([(b, .inr (4, [.ref (u2 0), .null, .null, .null, .null, .null]))] ++ cT cy u2 z0) : va_W)))
  have hP : va_P D vwCl ([(b, .inr (4, [.ref (u2 0), .null, .null, .null, .null, .null]))] ++ cT cy u2 z0 ++ cS cy u4 vI) H := hP
  have hD : va_D A ([(b, .inr (4, [.ref (u2 0), .null, .null, .null, .null, .null]))] ++ cT cy u2 z0 ++ cS cy u4 vI) := hD
  refine va_putF (D := D) (ci := 4) (v := .ref (u4 0 0)) (ty := tyX5 1) (C := RX5) (T := TX5) (N := 6) hx hb hts inX5_init_X5 tyX5 tyX5_ok nmX5 hown hK hP hD hS 0 rfl rfl 1 (by decide) (hts _ (List.mem_of_getElem? (i := 11) rfl)) (fun _ h9 => h9) rfl hin rfl (by decide +kernel) rfl rfl (Nat.le_of_ble_eq_true rfl) dX5_init_23 (fun H locs hP hD hS => ?_)
  have hP : va_P D vwCl ([(b, .inr (4, [.ref (u2 0), .ref (u4 0 0), .null, .null, .null, .null]))] ++ cT cy u2 z0 ++ cS cy u4 vI) H := hP
  have hD : va_D A ([(b, .inr (4, [.ref (u2 0), .ref (u4 0 0), .null, .null, .null, .null]))] ++ cT cy u2 z0 ++ cS cy u4 vI) := hD
  refine lv_aload_n hx hb dX5_init_26 rfl (lv_at hl 0 rfl) ?_
  refine va_new (ci := 2) (fs := [.null, .null, .null, .null, .null, .null, .int 0, .int 0, .int 0, .int 0, .int 0]) (C := RX3) (T := TX3) (N := 11) hx hb hts inX5_init_X3 tyX3 tyX3_ok hown (hts _ (List.mem_of_getElem? (i := 8) rfl)) (hts _ (List.mem_of_getElem? (i := 9) rfl)) (hts _ (List.mem_of_getElem? (i := 10) rfl)) hK hP hD hS hA rfl (fun j hj => by rcases (show j = 0 ∨ j = 1 ∨ j = 2 ∨ j = 3 ∨ j = 4 ∨ j = 5 ∨ j = 6 ∨ j = 7 ∨ j = 8 ∨ j = 9 ∨ j = 10 by omega) with rfl | rfl | rfl | rfl | rfl | rfl | rfl | rfl | rfl | rfl | rfl <;> rfl) (Nat.le_of_ble_eq_true rfl) (Nat.le_of_ble_eq_true rfl) dX5_init_27 (fun q5 H hP hD hS => ?_)
  have hP : va_P D vwCl ([(b, .inr (4, [.ref (u2 0), .ref (u4 0 0), .null, .null, .null, .null]))] ++ cT cy u2 z0 ++ cS cy u4 vI ++ [(q5, .inr (2, [.null, .null, .null, .null, .null, .null, .int 0, .int 0, .int 0, .int 0, .int 0]))]) H := hP
  have hD : va_D A ([(b, .inr (4, [.ref (u2 0), .ref (u4 0 0), .null, .null, .null, .null]))] ++ cT cy u2 z0 ++ cS cy u4 vI ++ [(q5, .inr (2, [.null, .null, .null, .null, .null, .null, .int 0, .int 0, .int 0, .int 0, .int 0]))]) := hD
  refine lv_dup hx hb dX5_init_30 rfl ?_
  refine cl_e (va_runI (As := []) (rest := [.ref q5, .ref b]) ⟨hx, hb, hml, hown, hts⟩ (c_X3_init l D cy q5 H.size) (cwI 0 hts gX5_init_X3_init rfl rfl rfl (hts _ (List.mem_of_getElem? (i := 10) rfl)) (hts _ (List.mem_of_getElem? (i := 27) rfl)) (hts _ (List.mem_of_getElem? (i := 28) rfl)) rfl (by decide +kernel) ⟨Nat.le_of_ble_eq_true rfl, Nat.le_of_ble_eq_true rfl⟩) ⟨blU, preU hP hD (List.perm_append_comm (l₁ := (([(b, .inr (4, [.ref (u2 0), .ref (u4 0 0), .null, .null, .null, .null]))] ++ cT cy u2 z0 ++ cS cy u4 vI) : va_W)) (l₂ := ([(q5, .inr (2, [.null, .null, .null, .null, .null, .null, .int 0, .int 0, .int 0, .int 0, .int 0]))] : va_W))) hK hE hS hA⟩ rfl rfl hl.1 rfl (lv_room (Nat.le_of_ble_eq_true rfl)) dX5_init_31 ⟨Nat.le_of_ble_eq_true rfl, Nat.le_of_ble_eq_true rfl⟩) hP hD (List.perm_append_comm (l₁ := (([(b, .inr (4, [.ref (u2 0), .ref (u4 0 0), .null, .null, .null, .null]))] ++ cT cy u2 z0 ++ cS cy u4 vI) : va_W)) (l₂ := ([(q5, .inr (2, [.null, .null, .null, .null, .null, .null, .int 0, .int 0, .int 0, .int 0, .int 0]))] : va_W))) hS hA (fun u6 H locs hu hPn hDn hS => ?_)
  have hu : (u6 0 0) = q5 := hu
  subst hu
  have hP := vP_perm hPn (List.perm_append_comm (l₁ := (cS cy u6 vI : va_W)) (l₂ := (([(b, .inr (4, [.ref (u2 0), .ref (u4 0 0), .null, .null, .null, .null]))] ++ cT cy u2 z0 ++ cS cy u4 vI) : va_W)))
  have hD := vD_perm hDn (List.perm_append_comm (l₁ := (cS cy u6 vI : va_W)) (l₂ := (([(b, .inr (4, [.ref (u2 0), .ref (u4 0 0), .null, .null, .null, .null]))] ++ cT cy u2 z0 ++ cS cy u4 vI) : va_W)))
  have hP : va_P D vwCl ([(b, .inr (4, [.ref (u2 0), .ref (u4 0 0), .null, .null, .null, .null]))] ++ cT cy u2 z0 ++ cS cy u4 vI ++ cS cy u6 vI) H := hP
  have hD : va_D A ([(b, .inr (4, [.ref (u2 0), .ref (u4 0 0), .null, .null, .null, .null]))] ++ cT cy u2 z0 ++ cS cy u4 vI ++ cS cy u6 vI) := hD
  refine va_putF (D := D) (ci := 4) (v := .ref (u6 0 0)) (ty := tyX5 2) (C := RX5) (T := TX5) (N := 6) hx hb hts inX5_init_X5 tyX5 tyX5_ok nmX5 hown hK hP hD hS 0 rfl rfl 2 (by decide) (hts _ (List.mem_of_getElem? (i := 12) rfl)) (fun _ h9 => h9) rfl hin rfl (by decide +kernel) rfl rfl (Nat.le_of_ble_eq_true rfl) dX5_init_34 (fun H locs hP hD hS => ?_)
  have hP : va_P D vwCl ([(b, .inr (4, [.ref (u2 0), .ref (u4 0 0), .ref (u6 0 0), .null, .null, .null]))] ++ cT cy u2 z0 ++ cS cy u4 vI ++ cS cy u6 vI) H := hP
  have hD : va_D A ([(b, .inr (4, [.ref (u2 0), .ref (u4 0 0), .ref (u6 0 0), .null, .null, .null]))] ++ cT cy u2 z0 ++ cS cy u4 vI ++ cS cy u6 vI) := hD
  refine lv_aload_n hx hb dX5_init_37 rfl (lv_at hl 0 rfl) ?_
  refine va_new (ci := 1) (fs := [.null, .int 0, .int 0]) (C := RX1) (T := TX1) (N := 3) hx hb hts inX5_init_X1 tyX1 tyX1_ok hown (hts _ (List.mem_of_getElem? (i := 13) rfl)) (hts _ (List.mem_of_getElem? (i := 14) rfl)) (hts _ (List.mem_of_getElem? (i := 15) rfl)) hK hP hD hS hA rfl (fun j hj => by rcases (show j = 0 ∨ j = 1 ∨ j = 2 by omega) with rfl | rfl | rfl <;> rfl) (Nat.le_of_ble_eq_true rfl) (Nat.le_of_ble_eq_true rfl) dX5_init_38 (fun q7 H hP hD hS => ?_)
  have hP : va_P D vwCl ([(b, .inr (4, [.ref (u2 0), .ref (u4 0 0), .ref (u6 0 0), .null, .null, .null]))] ++ cT cy u2 z0 ++ cS cy u4 vI ++ cS cy u6 vI ++ [(q7, .inr (1, [.null, .int 0, .int 0]))]) H := hP
  have hD : va_D A ([(b, .inr (4, [.ref (u2 0), .ref (u4 0 0), .ref (u6 0 0), .null, .null, .null]))] ++ cT cy u2 z0 ++ cS cy u4 vI ++ cS cy u6 vI ++ [(q7, .inr (1, [.null, .int 0, .int 0]))]) := hD
  refine lv_dup hx hb dX5_init_41 rfl ?_
  refine cl_e (va_runI (As := []) (rest := [.ref q7, .ref b]) ⟨hx, hb, hml, hown, hts⟩ (c_X1_init l D cy q7 H.size) (cwI 0 hts gX5_init_X1_init rfl rfl rfl (hts _ (List.mem_of_getElem? (i := 15) rfl)) (hts _ (List.mem_of_getElem? (i := 71) rfl)) (hts _ (List.mem_of_getElem? (i := 72) rfl)) rfl (by decide +kernel) ⟨Nat.le_of_ble_eq_true rfl, Nat.le_of_ble_eq_true rfl⟩) ⟨blU, preU hP hD (List.perm_append_comm (l₁ := (([(b, .inr (4, [.ref (u2 0), .ref (u4 0 0), .ref (u6 0 0), .null, .null, .null]))] ++ cT cy u2 z0 ++ cS cy u4 vI ++ cS cy u6 vI) : va_W)) (l₂ := ([(q7, .inr (1, [.null, .int 0, .int 0]))] : va_W))) hK hE hS hA⟩ rfl rfl hl.1 rfl (lv_room (Nat.le_of_ble_eq_true rfl)) dX5_init_42 ⟨Nat.le_of_ble_eq_true rfl, Nat.le_of_ble_eq_true rfl⟩) hP hD (List.perm_append_comm (l₁ := (([(b, .inr (4, [.ref (u2 0), .ref (u4 0 0), .ref (u6 0 0), .null, .null, .null]))] ++ cT cy u2 z0 ++ cS cy u4 vI ++ cS cy u6 vI) : va_W)) (l₂ := ([(q7, .inr (1, [.null, .int 0, .int 0]))] : va_W))) hS hA (fun u8 H locs hu hPn hDn hS => ?_)
  have hu : (u8.1 0) = q7 := hu
  subst hu
  have hP := vP_perm hPn (List.perm_append_comm (l₁ := (cH cy u8.1 u8.2 (0, 0, fun _ => vI) : va_W)) (l₂ := (([(b, .inr (4, [.ref (u2 0), .ref (u4 0 0), .ref (u6 0 0), .null, .null, .null]))] ++ cT cy u2 z0 ++ cS cy u4 vI ++ cS cy u6 vI) : va_W)))
  have hD := vD_perm hDn (List.perm_append_comm (l₁ := (cH cy u8.1 u8.2 (0, 0, fun _ => vI) : va_W)) (l₂ := (([(b, .inr (4, [.ref (u2 0), .ref (u4 0 0), .ref (u6 0 0), .null, .null, .null]))] ++ cT cy u2 z0 ++ cS cy u4 vI ++ cS cy u6 vI) : va_W)))
  have hP : va_P D vwCl ([(b, .inr (4, [.ref (u2 0), .ref (u4 0 0), .ref (u6 0 0), .null, .null, .null]))] ++ cT cy u2 z0 ++ cS cy u4 vI ++ cS cy u6 vI ++ cH cy u8.1 u8.2 (0, 0, fun _ => vI)) H := hP
  have hD : va_D A ([(b, .inr (4, [.ref (u2 0), .ref (u4 0 0), .ref (u6 0 0), .null, .null, .null]))] ++ cT cy u2 z0 ++ cS cy u4 vI ++ cS cy u6 vI ++ cH cy u8.1 u8.2 (0, 0, fun _ => vI)) := hD
  refine va_putF (D := D) (ci := 4) (v := .ref (u8.1 0)) (ty := tyX5 3) (C := RX5) (T := TX5) (N := 6) hx hb hts inX5_init_X5 tyX5 tyX5_ok nmX5 hown hK hP hD hS 0 rfl rfl 3 (by decide) (hts _ (List.mem_of_getElem? (i := 16) rfl)) (fun _ h9 => h9) rfl hin rfl (by decide +kernel) rfl rfl (Nat.le_of_ble_eq_true rfl) dX5_init_45 (fun H locs hP hD hS => ?_)
  have hP : va_P D vwCl ([(b, .inr (4, [.ref (u2 0), .ref (u4 0 0), .ref (u6 0 0), .ref (u8.1 0), .null, .null]))] ++ cT cy u2 z0 ++ cS cy u4 vI ++ cS cy u6 vI ++ cH cy u8.1 u8.2 (0, 0, fun _ => vI)) H := hP
  have hD : va_D A ([(b, .inr (4, [.ref (u2 0), .ref (u4 0 0), .ref (u6 0 0), .ref (u8.1 0), .null, .null]))] ++ cT cy u2 z0 ++ cS cy u4 vI ++ cS cy u6 vI ++ cH cy u8.1 u8.2 (0, 0, fun _ => vI)) := hD
  refine lv_aload_n hx hb dX5_init_48 rfl (lv_at hl 0 rfl) ?_
  refine lv_iconst (v := 2) hx hb dX5_init_49 (by decide) ?_
  refine va_newq hx hb hown (hts _ (List.mem_of_getElem? (i := 8) rfl)) hE.2.2.2.2.2.2.2.2.2.2.2.2.2.2.1 hK hP hD hS hA (by decide) (show ((2 : Int32)).toNatClampNeg = 2 from by decide) (by decide) (Nat.le_of_ble_eq_true rfl) (Nat.le_of_ble_eq_true rfl) dX5_init_50 (fun q9 cA H hKn hP hD hS => ?_)
  have hcA := cA_s hKn
  subst hcA
  clear hKn
  have hP : va_P D vwCl ([(b, .inr (4, [.ref (u2 0), .ref (u4 0 0), .ref (u6 0 0), .ref (u8.1 0), .null, .null]))] ++ cT cy u2 z0 ++ cS cy u4 vI ++ cS cy u6 vI ++ cH cy u8.1 u8.2 (0, 0, fun _ => vI) ++ [(q9, .inl (cy 3, 2, .inr (.inr (.inr (.inr (fun _ => none))))))]) H := hP
  have hD : va_D A ([(b, .inr (4, [.ref (u2 0), .ref (u4 0 0), .ref (u6 0 0), .ref (u8.1 0), .null, .null]))] ++ cT cy u2 z0 ++ cS cy u4 vI ++ cS cy u6 vI ++ cH cy u8.1 u8.2 (0, 0, fun _ => vI) ++ [(q9, .inl (cy 3, 2, .inr (.inr (.inr (.inr (fun _ => none))))))]) := hD
  refine va_putF (D := D) (ci := 4) (v := .ref q9) (ty := tyX5 4) (C := RX5) (T := TX5) (N := 6) hx hb hts inX5_init_X5 tyX5 tyX5_ok nmX5 hown hK hP hD hS 0 rfl rfl 4 (by decide) (hts _ (List.mem_of_getElem? (i := 17) rfl)) (fun _ h9 => h9) rfl hin rfl (by decide +kernel) rfl rfl (Nat.le_of_ble_eq_true rfl) dX5_init_53 (fun H locs hP hD hS => ?_)
  have hP : va_P D vwCl ([(b, .inr (4, [.ref (u2 0), .ref (u4 0 0), .ref (u6 0 0), .ref (u8.1 0), .ref q9, .null]))] ++ cT cy u2 z0 ++ cS cy u4 vI ++ cS cy u6 vI ++ cH cy u8.1 u8.2 (0, 0, fun _ => vI) ++ [(q9, .inl (cy 3, 2, .inr (.inr (.inr (.inr (fun _ => none))))))]) H := hP
  have hD : va_D A ([(b, .inr (4, [.ref (u2 0), .ref (u4 0 0), .ref (u6 0 0), .ref (u8.1 0), .ref q9, .null]))] ++ cT cy u2 z0 ++ cS cy u4 vI ++ cS cy u6 vI ++ cH cy u8.1 u8.2 (0, 0, fun _ => vI) ++ [(q9, .inl (cy 3, 2, .inr (.inr (.inr (.inr (fun _ => none))))))]) := hD
  refine lv_iconst (v := 0) hx hb dX5_init_56 (by decide) ?_
  refine lv_istore_n (lv' := [(1, .int (0 : Int32)), (0, .ref b)]) hx hb dX5_init_57 rfl hl (by decide) rfl (fun ls hl => ?_)
  refine lv_iload_n hx hb dX5_init_58 rfl (lv_at hl 0 rfl) ?_
  refine lv_iconst (v := 2) hx hb dX5_init_59 (by decide) ?_
  refine lv_icmp_ge (tgt := 82) hx hb dX5_init_60 (by decide) (fun c_10 => absurd c_10 (by decide)) (fun c_10 => ?_)
  refine lv_aload_n hx hb dX5_init_63 rfl (lv_at hl 1 rfl) ?_
  refine va_get (D := D) (ci := 4) (v := .ref q9) (C := RX5) (T := TX5) (N := 6) hx hb hts inX5_init_X5 hown hK hP 0 rfl rfl 4 (by decide) (hts _ (List.mem_of_getElem? (i := 17) rfl)) (fun _ h9 => h9) rfl dX5_init_64 ?_
  refine lv_iload_n hx hb dX5_init_67 rfl (lv_at hl 0 rfl) ?_
  refine va_new (ci := 2) (fs := [.null, .null, .null, .null, .null, .null, .int 0, .int 0, .int 0, .int 0, .int 0]) (C := RX3) (T := TX3) (N := 11) hx hb hts inX5_init_X3 tyX3 tyX3_ok hown (hts _ (List.mem_of_getElem? (i := 8) rfl)) (hts _ (List.mem_of_getElem? (i := 9) rfl)) (hts _ (List.mem_of_getElem? (i := 10) rfl)) hK hP hD hS hA rfl (fun j hj => by rcases (show j = 0 ∨ j = 1 ∨ j = 2 ∨ j = 3 ∨ j = 4 ∨ j = 5 ∨ j = 6 ∨ j = 7 ∨ j = 8 ∨ j = 9 ∨ j = 10 by omega) with rfl | rfl | rfl | rfl | rfl | rfl | rfl | rfl | rfl | rfl | rfl <;> rfl) (Nat.le_of_ble_eq_true rfl) (Nat.le_of_ble_eq_true rfl) dX5_init_68 (fun q11 H hP hD hS => ?_)
  have hP : va_P D vwCl ([(b, .inr (4, [.ref (u2 0), .ref (u4 0 0), .ref (u6 0 0), .ref (u8.1 0), .ref q9, .null]))] ++ cT cy u2 z0 ++ cS cy u4 vI ++ cS cy u6 vI ++ cH cy u8.1 u8.2 (0, 0, fun _ => vI) ++ [(q9, .inl (cy 3, 2, .inr (.inr (.inr (.inr (fun _ => none)))))), (q11, .inr (2, [.null, .null, .null, .null, .null, .null, .int 0, .int 0, .int 0, .int 0, .int 0]))]) H := hP
  have hD : va_D A ([(b, .inr (4, [.ref (u2 0), .ref (u4 0 0), .ref (u6 0 0), .ref (u8.1 0), .ref q9, .null]))] ++ cT cy u2 z0 ++ cS cy u4 vI ++ cS cy u6 vI ++ cH cy u8.1 u8.2 (0, 0, fun _ => vI) ++ [(q9, .inl (cy 3, 2, .inr (.inr (.inr (.inr (fun _ => none)))))), (q11, .inr (2, [.null, .null, .null, .null, .null, .null, .int 0, .int 0, .int 0, .int 0, .int 0]))]) := hD
  refine lv_dup hx hb dX5_init_71 rfl ?_
  refine cl_e (va_runI (As := []) (rest := [.ref q11, .int (0 : Int32), .ref q9]) ⟨hx, hb, hml, hown, hts⟩ (c_X3_init l D cy q11 H.size) (cwI 0 hts gX5_init_X3_init rfl rfl rfl (hts _ (List.mem_of_getElem? (i := 10) rfl)) (hts _ (List.mem_of_getElem? (i := 27) rfl)) (hts _ (List.mem_of_getElem? (i := 28) rfl)) rfl (by decide +kernel) ⟨Nat.le_of_ble_eq_true rfl, Nat.le_of_ble_eq_true rfl⟩) ⟨blU, preU hP hD (List.perm_append_comm (l₁ := (([(b, .inr (4, [.ref (u2 0), .ref (u4 0 0), .ref (u6 0 0), .ref (u8.1 0), .ref q9, .null]))] ++ cT cy u2 z0 ++ cS cy u4 vI ++ cS cy u6 vI ++ cH cy u8.1 u8.2 (0, 0, fun _ => vI) ++ [(q9, .inl (cy 3, 2, .inr (.inr (.inr (.inr (fun _ => none))))))]) : va_W)) (l₂ := ([(q11, .inr (2, [.null, .null, .null, .null, .null, .null, .int 0, .int 0, .int 0, .int 0, .int 0]))] : va_W))) hK hE hS hA⟩ rfl rfl hl.1 rfl (lv_room (Nat.le_of_ble_eq_true rfl)) dX5_init_72 ⟨Nat.le_of_ble_eq_true rfl, Nat.le_of_ble_eq_true rfl⟩) hP hD (List.perm_append_comm (l₁ := (([(b, .inr (4, [.ref (u2 0), .ref (u4 0 0), .ref (u6 0 0), .ref (u8.1 0), .ref q9, .null]))] ++ cT cy u2 z0 ++ cS cy u4 vI ++ cS cy u6 vI ++ cH cy u8.1 u8.2 (0, 0, fun _ => vI) ++ [(q9, .inl (cy 3, 2, .inr (.inr (.inr (.inr (fun _ => none))))))]) : va_W)) (l₂ := ([(q11, .inr (2, [.null, .null, .null, .null, .null, .null, .int 0, .int 0, .int 0, .int 0, .int 0]))] : va_W))) hS hA (fun u12 H locs hu hPn hDn hS => ?_)
  have hu : (u12 0 0) = q11 := hu
  subst hu
  have hP := vP_perm hPn (List.perm_append_comm (l₁ := (cS cy u12 vI : va_W)) (l₂ := (([(b, .inr (4, [.ref (u2 0), .ref (u4 0 0), .ref (u6 0 0), .ref (u8.1 0), .ref q9, .null]))] ++ cT cy u2 z0 ++ cS cy u4 vI ++ cS cy u6 vI ++ cH cy u8.1 u8.2 (0, 0, fun _ => vI) ++ [(q9, .inl (cy 3, 2, .inr (.inr (.inr (.inr (fun _ => none))))))]) : va_W)))
  have hD := vD_perm hDn (List.perm_append_comm (l₁ := (cS cy u12 vI : va_W)) (l₂ := (([(b, .inr (4, [.ref (u2 0), .ref (u4 0 0), .ref (u6 0 0), .ref (u8.1 0), .ref q9, .null]))] ++ cT cy u2 z0 ++ cS cy u4 vI ++ cS cy u6 vI ++ cH cy u8.1 u8.2 (0, 0, fun _ => vI) ++ [(q9, .inl (cy 3, 2, .inr (.inr (.inr (.inr (fun _ => none))))))]) : va_W)))
  have hP : va_P D vwCl ([(b, .inr (4, [.ref (u2 0), .ref (u4 0 0), .ref (u6 0 0), .ref (u8.1 0), .ref q9, .null]))] ++ cT cy u2 z0 ++ cS cy u4 vI ++ cS cy u6 vI ++ cH cy u8.1 u8.2 (0, 0, fun _ => vI) ++ [(q9, .inl (cy 3, 2, .inr (.inr (.inr (.inr (fun _ => none))))))] ++ cS cy u12 vI) H := hP
  have hD : va_D A ([(b, .inr (4, [.ref (u2 0), .ref (u4 0 0), .ref (u6 0 0), .ref (u8.1 0), .ref q9, .null]))] ++ cT cy u2 z0 ++ cS cy u4 vI ++ cS cy u6 vI ++ cH cy u8.1 u8.2 (0, 0, fun _ => vI) ++ [(q9, .inl (cy 3, 2, .inr (.inr (.inr (.inr (fun _ => none))))))] ++ cS cy u12 vI) := hD
  refine va_astq (r := (RX3, TX3, 11)) hx hb hK hP hD hS 343 3 344 2 rfl rfl rfl rfl (vp_c (by decide)) dX5_init_75 (fun H locs hP hD hS => ?_)
  have hP : va_P D vwCl ([(b, .inr (4, [.ref (u2 0), .ref (u4 0 0), .ref (u6 0 0), .ref (u8.1 0), .ref q9, .null]))] ++ cT cy u2 z0 ++ cS cy u4 vI ++ cS cy u6 vI ++ cH cy u8.1 u8.2 (0, 0, fun _ => vI) ++ [(q9, .inl (cy 3, 2, .inr (.inr (.inr (.inr (va_up (fun _ => none) 0 (some (u12 0 0))))))))] ++ cS cy u12 vI) H := hP
  have hD : va_D A ([(b, .inr (4, [.ref (u2 0), .ref (u4 0 0), .ref (u6 0 0), .ref (u8.1 0), .ref q9, .null]))] ++ cT cy u2 z0 ++ cS cy u4 vI ++ cS cy u6 vI ++ cH cy u8.1 u8.2 (0, 0, fun _ => vI) ++ [(q9, .inl (cy 3, 2, .inr (.inr (.inr (.inr (va_up (fun _ => none) 0 (some (u12 0 0))))))))] ++ cS cy u12 vI) := hD
  refine lv_iinc (v := (1 : Int32)) (lv' := [(1, .int (1 : Int32)), (0, .ref b)]) hx hb dX5_init_76 hl (k := 0) rfl (by decide) (by decide) rfl (fun ls hl => ?_)
  refine lv_goto (tgt := 58) hx hb dX5_init_79 (by decide) ?_
  refine lv_iload_n hx hb dX5_init_58 rfl (lv_at hl 0 rfl) ?_
  refine lv_iconst (v := 2) hx hb dX5_init_59 (by decide) ?_
  refine lv_icmp_ge (tgt := 82) hx hb dX5_init_60 (by decide) (fun c_13 => absurd c_13 (by decide)) (fun c_13 => ?_)
  refine lv_aload_n hx hb dX5_init_63 rfl (lv_at hl 1 rfl) ?_
  refine va_get (D := D) (ci := 4) (v := .ref q9) (C := RX5) (T := TX5) (N := 6) hx hb hts inX5_init_X5 hown hK hP 0 rfl rfl 4 (by decide) (hts _ (List.mem_of_getElem? (i := 17) rfl)) (fun _ h9 => h9) rfl dX5_init_64 ?_
  refine lv_iload_n hx hb dX5_init_67 rfl (lv_at hl 0 rfl) ?_
  refine va_new (ci := 2) (fs := [.null, .null, .null, .null, .null, .null, .int 0, .int 0, .int 0, .int 0, .int 0]) (C := RX3) (T := TX3) (N := 11) hx hb hts inX5_init_X3 tyX3 tyX3_ok hown (hts _ (List.mem_of_getElem? (i := 8) rfl)) (hts _ (List.mem_of_getElem? (i := 9) rfl)) (hts _ (List.mem_of_getElem? (i := 10) rfl)) hK hP hD hS hA rfl (fun j hj => by rcases (show j = 0 ∨ j = 1 ∨ j = 2 ∨ j = 3 ∨ j = 4 ∨ j = 5 ∨ j = 6 ∨ j = 7 ∨ j = 8 ∨ j = 9 ∨ j = 10 by omega) with rfl | rfl | rfl | rfl | rfl | rfl | rfl | rfl | rfl | rfl | rfl <;> rfl) (Nat.le_of_ble_eq_true rfl) (Nat.le_of_ble_eq_true rfl) dX5_init_68 (fun q14 H hP hD hS => ?_)
  have hP : va_P D vwCl ([(b, .inr (4, [.ref (u2 0), .ref (u4 0 0), .ref (u6 0 0), .ref (u8.1 0), .ref q9, .null]))] ++ cT cy u2 z0 ++ cS cy u4 vI ++ cS cy u6 vI ++ cH cy u8.1 u8.2 (0, 0, fun _ => vI) ++ [(q9, .inl (cy 3, 2, .inr (.inr (.inr (.inr (va_up (fun _ => none) 0 (some (u12 0 0))))))))] ++ cS cy u12 vI ++ [(q14, .inr (2, [.null, .null, .null, .null, .null, .null, .int 0, .int 0, .int 0, .int 0, .int 0]))]) H := hP
  have hD : va_D A ([(b, .inr (4, [.ref (u2 0), .ref (u4 0 0), .ref (u6 0 0), .ref (u8.1 0), .ref q9, .null]))] ++ cT cy u2 z0 ++ cS cy u4 vI ++ cS cy u6 vI ++ cH cy u8.1 u8.2 (0, 0, fun _ => vI) ++ [(q9, .inl (cy 3, 2, .inr (.inr (.inr (.inr (va_up (fun _ => none) 0 (some (u12 0 0))))))))] ++ cS cy u12 vI ++ [(q14, .inr (2, [.null, .null, .null, .null, .null, .null, .int 0, .int 0, .int 0, .int 0, .int 0]))]) := hD
  refine lv_dup hx hb dX5_init_71 rfl ?_
  refine cl_e (va_runI (As := []) (rest := [.ref q14, .int (1 : Int32), .ref q9]) ⟨hx, hb, hml, hown, hts⟩ (c_X3_init l D cy q14 H.size) (cwI 0 hts gX5_init_X3_init rfl rfl rfl (hts _ (List.mem_of_getElem? (i := 10) rfl)) (hts _ (List.mem_of_getElem? (i := 27) rfl)) (hts _ (List.mem_of_getElem? (i := 28) rfl)) rfl (by decide +kernel) ⟨Nat.le_of_ble_eq_true rfl, Nat.le_of_ble_eq_true rfl⟩) ⟨blU, preU hP hD (List.perm_append_comm (l₁ := (([(b, .inr (4, [.ref (u2 0), .ref (u4 0 0), .ref (u6 0 0), .ref (u8.1 0), .ref q9, .null]))] ++ cT cy u2 z0 ++ cS cy u4 vI ++ cS cy u6 vI ++ cH cy u8.1 u8.2 (0, 0, fun _ => vI) ++ [(q9, .inl (cy 3, 2, .inr (.inr (.inr (.inr (va_up (fun _ => none) 0 (some (u12 0 0))))))))] ++ cS cy u12 vI) : va_W)) (l₂ := ([(q14, .inr (2, [.null, .null, .null, .null, .null, .null, .int 0, .int 0, .int 0, .int 0, .int 0]))] : va_W))) hK hE hS hA⟩ rfl rfl hl.1 rfl (lv_room (Nat.le_of_ble_eq_true rfl)) dX5_init_72 ⟨Nat.le_of_ble_eq_true rfl, Nat.le_of_ble_eq_true rfl⟩) hP hD (List.perm_append_comm (l₁ := (([(b, .inr (4, [.ref (u2 0), .ref (u4 0 0), .ref (u6 0 0), .ref (u8.1 0), .ref q9, .null]))] ++ cT cy u2 z0 ++ cS cy u4 vI ++ cS cy u6 vI ++ cH cy u8.1 u8.2 (0, 0, fun _ => vI) ++ [(q9, .inl (cy 3, 2, .inr (.inr (.inr (.inr (va_up (fun _ => none) 0 (some (u12 0 0))))))))] ++ cS cy u12 vI) : va_W)) (l₂ := ([(q14, .inr (2, [.null, .null, .null, .null, .null, .null, .int 0, .int 0, .int 0, .int 0, .int 0]))] : va_W))) hS hA (fun u15 H locs hu hPn hDn hS => ?_)
  have hu : (u15 0 0) = q14 := hu
  subst hu
  have hP := vP_perm hPn (List.perm_append_comm (l₁ := (cS cy u15 vI : va_W)) (l₂ := (([(b, .inr (4, [.ref (u2 0), .ref (u4 0 0), .ref (u6 0 0), .ref (u8.1 0), .ref q9, .null]))] ++ cT cy u2 z0 ++ cS cy u4 vI ++ cS cy u6 vI ++ cH cy u8.1 u8.2 (0, 0, fun _ => vI) ++ [(q9, .inl (cy 3, 2, .inr (.inr (.inr (.inr (va_up (fun _ => none) 0 (some (u12 0 0))))))))] ++ cS cy u12 vI) : va_W)))
  have hD := vD_perm hDn (List.perm_append_comm (l₁ := (cS cy u15 vI : va_W)) (l₂ := (([(b, .inr (4, [.ref (u2 0), .ref (u4 0 0), .ref (u6 0 0), .ref (u8.1 0), .ref q9, .null]))] ++ cT cy u2 z0 ++ cS cy u4 vI ++ cS cy u6 vI ++ cH cy u8.1 u8.2 (0, 0, fun _ => vI) ++ [(q9, .inl (cy 3, 2, .inr (.inr (.inr (.inr (va_up (fun _ => none) 0 (some (u12 0 0))))))))] ++ cS cy u12 vI) : va_W)))
  have hP : va_P D vwCl ([(b, .inr (4, [.ref (u2 0), .ref (u4 0 0), .ref (u6 0 0), .ref (u8.1 0), .ref q9, .null]))] ++ cT cy u2 z0 ++ cS cy u4 vI ++ cS cy u6 vI ++ cH cy u8.1 u8.2 (0, 0, fun _ => vI) ++ [(q9, .inl (cy 3, 2, .inr (.inr (.inr (.inr (va_up (fun _ => none) 0 (some (u12 0 0))))))))] ++ cS cy u12 vI ++ cS cy u15 vI) H := hP
  have hD : va_D A ([(b, .inr (4, [.ref (u2 0), .ref (u4 0 0), .ref (u6 0 0), .ref (u8.1 0), .ref q9, .null]))] ++ cT cy u2 z0 ++ cS cy u4 vI ++ cS cy u6 vI ++ cH cy u8.1 u8.2 (0, 0, fun _ => vI) ++ [(q9, .inl (cy 3, 2, .inr (.inr (.inr (.inr (va_up (fun _ => none) 0 (some (u12 0 0))))))))] ++ cS cy u12 vI ++ cS cy u15 vI) := hD
  refine va_astq (r := (RX3, TX3, 11)) hx hb hK hP hD hS 343 3 365 2 rfl rfl rfl rfl (vp_c (by decide)) dX5_init_75 (fun H locs hP hD hS => ?_)
  have hP : va_P D vwCl ([(b, .inr (4, [.ref (u2 0), .ref (u4 0 0), .ref (u6 0 0), .ref (u8.1 0), .ref q9, .null]))] ++ cT cy u2 z0 ++ cS cy u4 vI ++ cS cy u6 vI ++ cH cy u8.1 u8.2 (0, 0, fun _ => vI) ++ [(q9, .inl (cy 3, 2, .inr (.inr (.inr (.inr (va_up (va_up (fun _ => none) 0 (some (u12 0 0))) 1 (some (u15 0 0))))))))] ++ cS cy u12 vI ++ cS cy u15 vI) H := hP
  have hD : va_D A ([(b, .inr (4, [.ref (u2 0), .ref (u4 0 0), .ref (u6 0 0), .ref (u8.1 0), .ref q9, .null]))] ++ cT cy u2 z0 ++ cS cy u4 vI ++ cS cy u6 vI ++ cH cy u8.1 u8.2 (0, 0, fun _ => vI) ++ [(q9, .inl (cy 3, 2, .inr (.inr (.inr (.inr (va_up (va_up (fun _ => none) 0 (some (u12 0 0))) 1 (some (u15 0 0))))))))] ++ cS cy u12 vI ++ cS cy u15 vI) := hD
  refine lv_iinc (v := (2 : Int32)) (lv' := [(1, .int (2 : Int32)), (0, .ref b)]) hx hb dX5_init_76 hl (k := 0) rfl (by decide) (by decide) rfl (fun ls hl => ?_)
  refine lv_goto (tgt := 58) hx hb dX5_init_79 (by decide) ?_
  refine lv_iload_n hx hb dX5_init_58 rfl (lv_at hl 0 rfl) ?_
  refine lv_iconst (v := 2) hx hb dX5_init_59 (by decide) ?_
  refine lv_icmp_ge (tgt := 82) hx hb dX5_init_60 (by decide) (fun c_16 => ?_) (fun c_16 => absurd (by decide) c_16)
  refine lv_aload_n hx hb dX5_init_82 rfl (lv_at hl 1 rfl) ?_
  refine lv_iconst (v := 2) hx hb dX5_init_83 (by decide) ?_
  refine va_newa (atype := .boolean) (ty := .boolean) (a0 := (2, .inl (fun _ => 0))) hx hb (hts _ (List.mem_of_getElem? (i := 18) rfl)) rfl hK hP hD hS hA (fun _ => rfl) (by decide) (by decide) (by decide) (Nat.le_of_ble_eq_true rfl) (Nat.le_of_ble_eq_true rfl) dX5_init_84 (fun q17 cA H hKn hP hD hS => ?_)
  have hcA := cA_z hKn
  subst hcA
  clear hKn
  have hP : va_P D vwCl ([(b, .inr (4, [.ref (u2 0), .ref (u4 0 0), .ref (u6 0 0), .ref (u8.1 0), .ref q9, .null]))] ++ cT cy u2 z0 ++ cS cy u4 vI ++ cS cy u6 vI ++ cH cy u8.1 u8.2 (0, 0, fun _ => vI) ++ [(q9, .inl (cy 3, 2, .inr (.inr (.inr (.inr (va_up (va_up (fun _ => none) 0 (some (u12 0 0))) 1 (some (u15 0 0))))))))] ++ cS cy u12 vI ++ cS cy u15 vI ++ [(q17, .inl (cy 1, 2, .inl (fun _ => (0 : Int32))))]) H := hP
  have hD : va_D A ([(b, .inr (4, [.ref (u2 0), .ref (u4 0 0), .ref (u6 0 0), .ref (u8.1 0), .ref q9, .null]))] ++ cT cy u2 z0 ++ cS cy u4 vI ++ cS cy u6 vI ++ cH cy u8.1 u8.2 (0, 0, fun _ => vI) ++ [(q9, .inl (cy 3, 2, .inr (.inr (.inr (.inr (va_up (va_up (fun _ => none) 0 (some (u12 0 0))) 1 (some (u15 0 0))))))))] ++ cS cy u12 vI ++ cS cy u15 vI ++ [(q17, .inl (cy 1, 2, .inl (fun _ => (0 : Int32))))]) := hD
  refine va_putF (D := D) (ci := 4) (v := .ref q17) (ty := tyX5 5) (C := RX5) (T := TX5) (N := 6) hx hb hts inX5_init_X5 tyX5 tyX5_ok nmX5 hown hK hP hD hS 0 rfl rfl 5 (by decide) (hts _ (List.mem_of_getElem? (i := 19) rfl)) (fun _ h9 => h9) rfl hin rfl (by decide +kernel) rfl rfl (Nat.le_of_ble_eq_true rfl) dX5_init_86 (fun H locs hP hD hS => ?_)
  have hP : va_P D vwCl ([(b, .inr (4, [.ref (u2 0), .ref (u4 0 0), .ref (u6 0 0), .ref (u8.1 0), .ref q9, .ref q17]))] ++ cT cy u2 z0 ++ cS cy u4 vI ++ cS cy u6 vI ++ cH cy u8.1 u8.2 (0, 0, fun _ => vI) ++ [(q9, .inl (cy 3, 2, .inr (.inr (.inr (.inr (va_up (va_up (fun _ => none) 0 (some (u12 0 0))) 1 (some (u15 0 0))))))))] ++ cS cy u12 vI ++ cS cy u15 vI ++ [(q17, .inl (cy 1, 2, .inl (fun _ => (0 : Int32))))]) H := hP
  have hD : va_D A ([(b, .inr (4, [.ref (u2 0), .ref (u4 0 0), .ref (u6 0 0), .ref (u8.1 0), .ref q9, .ref q17]))] ++ cT cy u2 z0 ++ cS cy u4 vI ++ cS cy u6 vI ++ cH cy u8.1 u8.2 (0, 0, fun _ => vI) ++ [(q9, .inl (cy 3, 2, .inr (.inr (.inr (.inr (va_up (va_up (fun _ => none) 0 (some (u12 0 0))) 1 (some (u15 0 0))))))))] ++ cS cy u12 vI ++ cS cy u15 vI ++ [(q17, .inl (cy 1, 2, .inl (fun _ => (0 : Int32))))]) := hD
  have hP := vP_perm hP (pm9f ([(b, .inr (4, [.ref (u2 0), .ref (u4 0 0), .ref (u6 0 0), .ref (u8.1 0), .ref q9, .ref q17]))] : va_W) (cT cy u2 z0) (cS cy u4 vI) (cS cy u6 vI) (cH cy u8.1 u8.2 (0, 0, fun _ => vI)) ([(q9, .inl (cy 3, 2, .inr (.inr (.inr (.inr (va_up (va_up (fun _ => none) 0 (some (u12 0 0))) 1 (some (u15 0 0))))))))] : va_W) (cS cy u12 vI) (cS cy u15 vI) ([(q17, .inl (cy 1, 2, .inl (fun _ => (0 : Int32))))] : va_W))
  have hD := vD_perm hD (pm9f ([(b, .inr (4, [.ref (u2 0), .ref (u4 0 0), .ref (u6 0 0), .ref (u8.1 0), .ref q9, .ref q17]))] : va_W) (cT cy u2 z0) (cS cy u4 vI) (cS cy u6 vI) (cH cy u8.1 u8.2 (0, 0, fun _ => vI)) ([(q9, .inl (cy 3, 2, .inr (.inr (.inr (.inr (va_up (va_up (fun _ => none) 0 (some (u12 0 0))) 1 (some (u15 0 0))))))))] : va_W) (cS cy u12 vI) (cS cy u15 vI) ([(q17, .inl (cy 1, 2, .inl (fun _ => (0 : Int32))))] : va_W))
  have hP := vP_rowq hP 1 (g := fun k => if k = 0 then some (u12 0 0) else some (u15 0 0)) rfl (fun j hj => by rcases (show j = 0 ∨ j = 1 by omega) with rfl | rfl <;> rfl)
  have hD := vD_rowq hD 1 (y := .inl (cy 3, 2, .inr (.inr (.inr (.inr (fun k => if k = 0 then some (u12 0 0) else some (u15 0 0))))))) rfl
  have hP : va_P D vwCl (wB cy (mkAD (l7 b q9 q17 0 0 0 0) u2 u8.1 u4 u6 u12 u15 u8.2) bI) H := hP
  have hD : va_D A (wB cy (mkAD (l7 b q9 q17 0 0 0 0) u2 u8.1 u4 u6 u12 u15 u8.2) bI) := hD
  exact hret (mkAD (l7 b q9 q17 0 0 0 0) u2 u8.1 u4 u6 u12 u15 u8.2) H locs _ ls rfl hP hD hS dX5_init_89

