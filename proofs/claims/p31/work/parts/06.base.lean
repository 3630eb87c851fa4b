/-! ===== base: worlds as lists of blocks, the surroundings (statics, texts), contracts in words, calls ===== -/
abbrev RV : Type := Nat → Nat → Int32
abbrev ty4 (cy : Nat → ClassId) : List (ClassId × FieldType) := [(cy 0, .int), (cy 1, .boolean), (cy 2, .object RX0), (cy 3, .object RX3)]
/-! permutations of worlds -/
theorem pmC {α : Type} : ∀ (l : List α) (i : Nat) (x y : α), l[i]? = some x → l.Perm (x :: l.eraseIdx i) ∧ (y :: l.eraseIdx i).Perm (l.set i y)
  | [], i, x, y, h => by simp at h
  | b :: t, 0, x, y, h => by
    have hb : b = x := by simpa using h
    subst hb
    exact ⟨List.Perm.refl _, List.Perm.refl _⟩
  | b :: t, i + 1, x, y, h => by
    have h' : t[i]? = some x := by simpa using h
    obtain ⟨h1, h2⟩ := pmC t i x y h'
    exact ⟨(h1.cons b).trans (List.Perm.swap x b _), (List.Perm.swap b y _).trans (h2.cons b)⟩
theorem pmF {α : Type} {l l' : List (List α)} (h : l.Perm l') : l.flatten.Perm l'.flatten := by
  induction h with
  | nil => exact List.Perm.refl _
  | cons x _ ih => exact ih.append_left x
  | swap x y l =>
    show (y ++ (x ++ l.flatten)).Perm (x ++ (y ++ l.flatten))
    rw [← List.append_assoc, ← List.append_assoc]
    exact List.perm_append_comm.append_right _
  | trans _ _ h1 h2 => exact h1.trans h2
theorem pmB {α : Type} (bs : List (List α)) (i : Nat) (w u : List α) (h : bs[i]? = some w) : bs.flatten.Perm (w ++ (bs.eraseIdx i).flatten) ∧ (u ++ (bs.eraseIdx i).flatten).Perm (bs.set i u).flatten :=
  ⟨pmF (pmC bs i w u h).1, pmF (pmC bs i w u h).2⟩
theorem pmB2 {α : Type} (bs : List (List α)) (i j : Nat) (w v u z : List α) (hi : bs[i]? = some w) (hj : (bs.eraseIdx i)[j]? = some v) :
    bs.flatten.Perm ((w ++ v) ++ ((bs.eraseIdx i).eraseIdx j).flatten) ∧ ((u ++ z) ++ ((bs.eraseIdx i).eraseIdx j).flatten).Perm (u ++ ((bs.eraseIdx i).set j z).flatten) := by
  rw [List.append_assoc, List.append_assoc]
  exact ⟨(pmB bs i w u hi).1.trans ((pmB (bs.eraseIdx i) j v z hj).1.append_left w), (pmB (bs.eraseIdx i) j v z hj).2.append_left u⟩
theorem vP_perm {D : va_G} {cl : List vw_C} {ws ws' : va_W} {H : Heap} (h : va_P D cl ws H) (p : ws.Perm ws') : va_P D cl ws' H := by
  intro k q hk
  obtain ⟨i, hi⟩ := List.getElem?_of_mem (p.mem_iff.mpr (List.mem_of_getElem? hk))
  exact h i q hi
theorem vD_iff {A : Nat → Prop} {ws : va_W} : va_D A ws ↔ ws.Pairwise (fun p q => p.1 ≠ q.1) ∧ ∀ q ∈ ws, A q.1 := by
  constructor
  · intro h
    refine ⟨List.pairwise_iff_getElem.mpr fun i j hi hj hij he => ?_, fun q hq => ?_⟩
    · have := h.1 i j _ _ (List.getElem?_eq_getElem hi) (List.getElem?_eq_getElem hj) he
      omega
    · obtain ⟨i, hi⟩ := List.getElem?_of_mem hq
      exact h.2 i q hi
  · intro h
    refine ⟨fun i j p q hi hj he => ?_, fun k q hk => h.2 q (List.mem_of_getElem? hk)⟩
    obtain ⟨hi1, hi2⟩ := List.getElem?_eq_some_iff.mp hi
    obtain ⟨hj1, hj2⟩ := List.getElem?_eq_some_iff.mp hj
    have hp := List.pairwise_iff_getElem.mp h.1
    rcases Nat.lt_trichotomy i j with hl | hl | hl
    · exact absurd (by rw [hi2, hj2]; exact he) (hp i j hi1 hj1 hl)
    · exact hl
    · exact absurd (by rw [hi2, hj2]; exact he.symm) (hp j i hj1 hi1 hl)
theorem vD_perm {A : Nat → Prop} {ws ws' : va_W} (h : va_D A ws) (p : ws.Perm ws') : va_D A ws' := by
  obtain ⟨h1, h2⟩ := vD_iff.mp h
  exact vD_iff.mpr ⟨(p.pairwise_iff (fun {x y} (hxy : x.1 ≠ y.1) => Ne.symm hxy)).mp h1, fun q hq => h2 q (p.mem_iff.mpr hq)⟩
/-- behind a call, by a permutation -/
theorem jn {A0 : Nat → Prop} {D : va_G} {cl : List vw_C} {ws wc wr w1 : va_W} {H H1 : Heap} (hP : va_P D cl ws H) (hD : va_D A0 ws) (hp : ws.Perm (wc ++ wr))
    (hk : ∀ q : Nat, q < H.size → ¬ va_A wc H.size q → H1[q]? = H[q]?) (hF : ∀ q, va_A wc H.size q → A0 q) (hP1 : va_P D cl w1 H1) (hD1 : va_D (va_A wc H.size) w1) : va_P D cl (w1 ++ wr) H1 ∧ va_D A0 (w1 ++ wr) := by
  have hP' := vP_perm hP hp
  have hD' := vD_perm hD hp
  have at' : ∀ (k : Nat) (q : Nat × va_E), wr[k]? = some q → (wc ++ wr)[wc.length + k]? = some q := fun k q h => by rw [List.getElem?_append_right (by omega), Nat.add_sub_cancel_left]; exact h
  have apart : ∀ (k : Nat) (q : Nat × va_E), wr[k]? = some q → q.1 < H.size ∧ ¬ va_A wc H.size q.1 := by
    intro k q hq
    have hl := (hP' _ q (at' k q hq)).lt
    refine ⟨hl, fun h => ?_⟩
    rcases h with ⟨k2, e, h⟩ | h
    · have hk2 : k2 < wc.length := (List.getElem?_eq_some_iff.mp h).1
      have := hD'.1 _ _ q (q.1, e) (at' k q hq) (show (wc ++ wr)[k2]? = some (q.1, e) by rw [List.getElem?_append_left hk2]; exact h) rfl
      omega
    · omega
  refine ⟨va_P.app hP1 (fun k q hq => (hP' _ q (at' k q hq)).kept (hk q.1 (apart k q hq).1 (apart k q hq).2)), va_D.app (hD1.weaken (fun k q _ h => hF q.1 h)) ?_ (fun i j x y hx hy hxy => (apart j y hy).2 (by rw [← hxy]; exact hD1.2 i x hx))⟩
  obtain ⟨h1, h2⟩ := vD_iff.mp hD'
  exact vD_iff.mpr ⟨(List.pairwise_append.mp h1).2.1, fun q hq => h2 q (List.mem_append_right _ hq)⟩
theorem fr {A0 : Nat → Prop} {ws wc wr : va_W} {H0 H : Heap} {locs : List Loc} (hD : va_D A0 ws) (hp : ws.Perm (wc ++ wr)) (hS : va_S A0 H0 H locs) (hA : ∀ q, H0.size ≤ q → A0 q) : ∀ q, va_A wc H.size q → A0 q := by
  intro q h
  rcases h with ⟨k, e, h⟩ | h
  · exact (vD_iff.mp hD).2 (q, e) (hp.mem_iff.mpr (List.mem_append_left _ (List.mem_of_getElem? h)))
  · exact hA q (Nat.le_trans hS.1 h)
theorem subP {D : va_G} {cl : List vw_C} {ws wc wr : va_W} {H : Heap} (hP : va_P D cl ws H) (hp : ws.Perm (wc ++ wr)) : va_P D cl wc H := by
  intro k q hk
  obtain ⟨i, hi⟩ := List.getElem?_of_mem (hp.mem_iff.mpr (List.mem_append_left _ (List.mem_of_getElem? hk)))
  exact hP i q hi
theorem subD {A : Nat → Prop} {ws wc wr : va_W} (hD : va_D A ws) (hp : ws.Perm (wc ++ wr)) : va_D (fun _ => True) wc := by
  obtain ⟨h1, -⟩ := vD_iff.mp (vD_perm hD hp)
  exact vD_iff.mpr ⟨(List.pairwise_append.mp h1).1, fun _ _ => trivial⟩
/-! the surroundings: what no method of ours changes -/
def evT (nm : String) (f : Nat → Int32) (A : Nat → Prop) (U : State) (H : Heap) : Prop := ∃ t : Nat, va_Z RX5 nm "[I" (.ref t) A U H ∧ va_T .int t 3 (fun j => .int (f j)) A U H
def dmost : Nat → Int32 := fun k => if k = 0 then 4 else if k = 1 then 6 else 1
def cleast : Nat → Int32 := fun k => if k = 0 then 2 else if k = 1 then 1 else 0
def cmost : Nat → Int32 := fun k => if k = 0 then 6 else if k = 1 then 4 else 9
theorem evT.go {nm : String} {f : Nat → Int32} {A0 A1 : Nat → Prop} {s U : State} {H : Heap} {locs : List Loc} (h : evT nm f A0 s s.heap) (hS : va_S A0 s.heap H locs) (hA : ∀ q, A1 q → A0 q) (hvm : s.vm.Alike U.vm) : evT nm f A1 U H := by
  obtain ⟨t, h1, h2⟩ := h
  exact ⟨t, ((va_Z.moved hvm h1).kept hS.2.1).narrow hA, ((va_T.moved hvm h2).kept hS.2.1).narrow hA⟩
def evS : List (Nat × String) := [(43, "no character code"), (54, "the text is full"), (97, "no such number"), (108, "no such number of a desk"), (125, "no such number of a note"), (145, "no such number of a place"), (162, "no such setting of a desk"), (175, "no such setting"), (187, "no such strength"), (197, "the text can't be played"), (207, "no state is remembered"), (218, "no such number of commands"), (224, "no script of so many commands"), (234, "no such number of branches"), (251, "nothing is saved in this slot"), (267, "no such desk"), (273, "no such place"), (275, "no such save slot"), (280, "no such note")]
def evR (s : State) : Prop := ∀ q ∈ evS, ∃ sa : Nat, vk_R RX5 q.1 q.2 sa s
def evNc (s : State) : Prop := va_Nc "java/lang/IllegalArgumentException" "java/lang/IndexOutOfBoundsException" s ∧ va_Nc "java/lang/IllegalStateException" "java/lang/IndexOutOfBoundsException" s ∧ va_Nc "java/lang/IllegalStateException" "java/lang/IllegalArgumentException" s
theorem evNc.go {s U : State} (h : evNc s) (hvm : s.vm.Alike U.vm) : evNc U := ⟨va_Nc.moved hvm h.1, va_Nc.moved hvm h.2.1, va_Nc.moved hvm h.2.2⟩
/-- the words of a throw that a method's own list doesn't hold -/
def evB : List Cond := [.declares (Bundle.initS "java/lang/RuntimeException"), .declares (Bundle.initS "java/lang/Exception"), .declares (Bundle.initS "java/lang/Throwable"), .castable "java/lang/IndexOutOfBoundsException" "java/lang/IndexOutOfBoundsException", .castable "java/lang/IllegalArgumentException" "java/lang/IllegalArgumentException", .castable "java/lang/IllegalStateException" "java/lang/IllegalStateException"]
def evW (s : State) : Prop := va_Nw (.declares (Bundle.initS "java/lang/RuntimeException")) s ∧ va_Nw (.declares (Bundle.initS "java/lang/Exception")) s ∧ va_Nw (.declares (Bundle.initS "java/lang/Throwable")) s ∧ va_Nw (.castable "java/lang/IndexOutOfBoundsException" "java/lang/IndexOutOfBoundsException") s ∧ va_Nw (.castable "java/lang/IllegalArgumentException" "java/lang/IllegalArgumentException") s ∧ va_Nw (.castable "java/lang/IllegalStateException" "java/lang/IllegalStateException") s
theorem evW.all {s : State} {args : Array Value} (h : evW s) : ∀ w ∈ evB, w.before args s = true := by
  obtain ⟨h1, h2, h3, h4, h5, h6⟩ := h
  exact List.forall_mem_cons.mpr ⟨va_Nw.use rfl h1, List.forall_mem_cons.mpr ⟨va_Nw.use rfl h2, List.forall_mem_cons.mpr ⟨va_Nw.use rfl h3, List.forall_mem_cons.mpr ⟨va_Nw.use rfl h4, List.forall_mem_cons.mpr ⟨va_Nw.use rfl h5, List.forall_mem_cons.mpr ⟨va_Nw.use rfl h6, fun _ h => absurd h List.not_mem_nil⟩⟩⟩⟩⟩⟩
theorem evW.warm {s U : State} (hW : s.WarmedH U.vm) (h : evW s) : evW U := ⟨va_Nw.warmD hW h.1, va_Nw.warmD hW h.2.1, va_Nw.warmD hW h.2.2.1, va_Nw.warmC hW h.2.2.2.1, va_Nw.warmC hW h.2.2.2.2.1, va_Nw.warmC hW h.2.2.2.2.2⟩
theorem evW.same {u U : State} (hv : u.vm = U.vm) (h : evW u) : evW U := ⟨va_Nw.same rfl hv h.1, va_Nw.same rfl hv h.2.1, va_Nw.same rfl hv h.2.2.1, va_Nw.same rfl hv h.2.2.2.1, va_Nw.same rfl hv h.2.2.2.2.1, va_Nw.same rfl hv h.2.2.2.2.2⟩
def evM (s : State) : Prop := va_Nw (.methodLinkNest RX5 9 yX4_init RX5) s ∧ va_Nw (.methodLinkNest RX3 33 yX0_init RX5) s ∧ va_Nw (.methodLinkNest RX2 58 yX5_isPlace RX5) s ∧ va_Nw (.methodLinkNest RX2 36 yX5_isDesk RX5) s ∧ va_Nw (.methodLinkNest RX2 65 yX5_isDeskSetting RX5) s ∧ va_Nw (.methodLinkNest RX2 72 yX5_isCommonSetting RX5) s ∧ va_AO RX0 s ∧ va_AO RX3 s ∧ evW s
theorem evM.warm {s U : State} (hW : s.WarmedH U.vm) (h : evM s) : evM U := by
  obtain ⟨h1, h2, h3, h4, h5, h6, h7, h8, h9⟩ := h
  exact ⟨va_Nw.warmM hW h1, va_Nw.warmM hW h2, va_Nw.warmM hW h3, va_Nw.warmM hW h4, va_Nw.warmM hW h5, va_Nw.warmM hW h6, va_AO.moved hW.alike h7, va_AO.moved hW.alike h8, h9.warm hW⟩
theorem evM.same {u U : State} (hv : u.vm = U.vm) (h : evM u) : evM U := by
  obtain ⟨h1, h2, h3, h4, h5, h6, h7, h8, h9⟩ := h
  exact ⟨va_Nw.same rfl hv h1, va_Nw.same rfl hv h2, va_Nw.same rfl hv h3, va_Nw.same rfl hv h4, va_Nw.same rfl hv h5, va_Nw.same rfl hv h6, va_AO.moved (by rw [hv]; exact Vm.Alike.refl _) h7, va_AO.moved (by rw [hv]; exact Vm.Alike.refl _) h8, h9.same hv⟩
def Ev (A : Nat → Prop) (U : State) (H : Heap) : Prop := vx_Zq Bundle.tN "UNASSIGNED_STACK" Bundle.steD A U H ∧ vx_Zq Bundle.tN "SUPPRESSED_SENTINEL" Bundle.listD A U H ∧ evT "DESK_MOST" dmost A U H ∧ evT "COMMON_LEAST" cleast A U H ∧ evT "COMMON_MOST" cmost A U H ∧ evR U ∧ evNc U ∧ evM U
theorem Ev.go {A0 A1 : Nat → Prop} {s U : State} {H : Heap} {locs : List Loc} (h : Ev A0 s s.heap) (hS : va_S A0 s.heap H locs) (hA : ∀ q, A1 q → A0 q) (hW : s.WarmedH U.vm) : Ev A1 U H := by
  obtain ⟨h1, h2, h3, h4, h5, h6, h7, h8⟩ := h
  refine ⟨((h1.moved hW.alike).kept hS.2.1).narrow hA, ((h2.moved hW.alike).kept hS.2.1).narrow hA, h3.go hS hA hW.alike, h4.go hS hA hW.alike, h5.go hS hA hW.alike, fun q hq => ?_, h7.go hW.alike, h8.warm hW⟩
  obtain ⟨sa, h⟩ := h6 q hq
  exact ⟨sa, vk_R.warm hW h⟩
/-- a method's start: its values, its world, the surroundings -/
def PU (D : va_G) (cy : Nat → ClassId) (av : List Value) (ws : va_W) (sz : Nat) : Array Value → State → Prop := va_Pc av (fun U => U.heap.size = sz ∧ va_P D vwCl ws U.heap ∧ va_K D vwCl (ty4 cy) U ∧ va_D (fun _ => True) ws ∧ Ev (va_A ws sz) U U.heap)
theorem blU {D : va_G} {cy : Nat → ClassId} {av : List Value} {ws : va_W} {sz : Nat} : FrameBlind (PU D cy av ws sz) := by
  intro a U g mk q
  obtain ⟨q0, q1, qP, qK, qD, q2, q3, q4, q5, q6, q7, q8, q9⟩ := q
  have hvm : U.vm.Alike (U.calling g mk a).vm := Vm.Alike.refl U.vm
  exact ⟨q0, q1, qP, va_K.moved (u := U) (U := U.calling g mk a) hvm qK, qD, q2.moved hvm, q3.moved hvm,
    ⟨q4.choose, va_Z.moved hvm q4.choose_spec.1, va_T.moved hvm q4.choose_spec.2⟩, ⟨q5.choose, va_Z.moved hvm q5.choose_spec.1, va_T.moved hvm q5.choose_spec.2⟩, ⟨q6.choose, va_Z.moved hvm q6.choose_spec.1, va_T.moved hvm q6.choose_spec.2⟩,
    fun q hq => ⟨(q7 q hq).choose, vk_R.same (u := U) (U := U.calling g mk a) rfl (q7 q hq).choose_spec⟩, q8.go hvm, q9.same rfl⟩
theorem preU {D : va_G} {cy : Nat → ClassId} {A0 : Nat → Prop} {ws wc wr : va_W} {s : State} {H : Heap} {locs : List Loc} {As : List Value} (hP : va_P D vwCl ws H) (hD : va_D A0 ws) (hp : ws.Perm (wc ++ wr)) (hK : va_K D vwCl (ty4 cy) s) (hE : Ev A0 s s.heap) (hS : va_S A0 s.heap H locs) (hA : ∀ q, s.heap.size ≤ q → A0 q) :
    ∀ U : State, U.heap = H → s.WarmedH U.vm → PU D cy As wc H.size As.toArray U := by
  intro U hU hW
  refine ⟨rfl, by rw [hU], by rw [hU]; exact subP hP hp, va_K.moved hW.alike hK, subD hD hp, ?_⟩
  rw [hU]
  exact hE.go hS (fr hD hp hS hA) hW
/-- the world at a method's end -/
abbrev BW (D : va_G) (ws : va_W) (sz : Nat) (w1 : va_W) (t : State) : Prop := va_P D vwCl w1 t.heap ∧ va_D (va_A ws sz) w1
def RsI (D : va_G) (ws : va_W) (sz : Nat) (res : Int32) (w1 : va_W) : Array Value → State → Outcome → State → Prop := va_Qi (fun (r : Int32) (_ : Unit) => r = res) (fun _ t => BW D ws sz w1 t) (va_A ws sz)
def RsL (D : va_G) (ws : va_W) (sz : Nat) (res : Int64) (w1 : va_W) : Array Value → State → Outcome → State → Prop := va_Ql (fun (r : Int64) (_ : Unit) => r = res) (fun _ t => BW D ws sz w1 t) (va_A ws sz)
def RsN (D : va_G) (ws : va_W) (sz : Nat) (w1 : va_W) : Array Value → State → Outcome → State → Prop := va_Qv (fun (_ : Unit) => True) (fun _ t => BW D ws sz w1 t) (va_A ws sz)
/-- contracts of methods that return an int or boolean, a long, nothing -/
def CI (l : Launch) (y : MethodName) (wy : List Cond) (rm : Room) (D : va_G) (cy : Nat → ClassId) (av : List Value) (ws : va_W) (sz : Nat) (res : Int32) (w1 : va_W) (mc ms : Nat) : Prop := Met l y wy rm (PU D cy av ws sz) (RsI D ws sz res w1) mc ms (va_A ws sz)
def CL (l : Launch) (y : MethodName) (wy : List Cond) (rm : Room) (D : va_G) (cy : Nat → ClassId) (av : List Value) (ws : va_W) (sz : Nat) (res : Int64) (w1 : va_W) (mc ms : Nat) : Prop := Met l y wy rm (PU D cy av ws sz) (RsL D ws sz res w1) mc ms (va_A ws sz)
def CN (l : Launch) (y : MethodName) (wy : List Cond) (rm : Room) (D : va_G) (cy : Nat → ClassId) (av : List Value) (ws : va_W) (sz : Nat) (w1 : va_W) (mc ms : Nat) : Prop := Met l y wy rm (PU D cy av ws sz) (RsN D ws sz w1) mc ms (va_A ws sz)
section CLS
variable {p : Program} {l : Launch} {e : Env} {R : Room} {s : State} {m : MethodId} {args : Array Value} {below : List Frame} {meth : Method} {c : Code} {H : Heap} {locs : List Loc} {cells slots : Nat} {Q : State → Prop}
variable {pc : Nat} {ls : Array Slot} {rest st0 : List Value} {a : Array Value} {A0 : Nat → Prop} {mc ms : Nat} {D : va_G} {cy : Nat → ClassId} {ws wc wr w1 : va_W}
theorem cl_i {res : Int32} (hr : va_Run p l e R s m args below meth c H locs cells slots mc ms (F0 m pc ls st0) rest (RsI D wc H.size res w1 a) (va_A wc H.size)) (hP : va_P D vwCl ws H) (hD : va_D A0 ws) (hp : ws.Perm (wc ++ wr)) (hS : va_S A0 s.heap H locs) (hA : ∀ q, s.heap.size ≤ q → A0 q)
    (kk : ∀ (H1 : Heap) (locs1 : List Loc), va_P D vwCl (w1 ++ wr) H1 → va_D A0 (w1 ++ wr) → va_S A0 s.heap H1 locs1 → W p l e R s m args below meth c H1 locs1 (cells + mc) (slots + ms) Q (F0 m (pc + 3) ls (.int res :: rest))) : W p l e R s m args below meth c H locs cells slots Q (F0 m pc ls st0) := by
  have hF := fr hD hp hS hA
  refine va_calli hr hS (fun q _ h => hF q h) hF (fun r u t H1 locs1 ht hvm hw hB hz hk hS1 => ?_)
  obtain ⟨hP1, hD1⟩ := hB
  rw [ht] at hP1
  obtain ⟨a1, a2⟩ := jn hP hD hp hk hF hP1 hD1
  have hw : r = res := hw
  subst hw
  exact kk H1 locs1 a1 a2 hS1
theorem cl_l {res : Int64} (hr : va_Run p l e R s m args below meth c H locs cells slots mc ms (F0 m pc ls st0) rest (RsL D wc H.size res w1 a) (va_A wc H.size)) (hP : va_P D vwCl ws H) (hD : va_D A0 ws) (hp : ws.Perm (wc ++ wr)) (hS : va_S A0 s.heap H locs) (hA : ∀ q, s.heap.size ≤ q → A0 q)
    (kk : ∀ (H1 : Heap) (locs1 : List Loc), va_P D vwCl (w1 ++ wr) H1 → va_D A0 (w1 ++ wr) → va_S A0 s.heap H1 locs1 → W p l e R s m args below meth c H1 locs1 (cells + mc) (slots + ms) Q (F0 m (pc + 3) ls (.long res :: rest))) : W p l e R s m args below meth c H locs cells slots Q (F0 m pc ls st0) := by
  have hF := fr hD hp hS hA
  refine va_calll hr hS (fun q _ h => hF q h) hF (fun r u t H1 locs1 ht hvm hw hB hz hk hS1 => ?_)
  obtain ⟨hP1, hD1⟩ := hB
  rw [ht] at hP1
  obtain ⟨a1, a2⟩ := jn hP hD hp hk hF hP1 hD1
  have hw : r = res := hw
  subst hw
  exact kk H1 locs1 a1 a2 hS1
theorem cl_n (hr : va_Run p l e R s m args below meth c H locs cells slots mc ms (F0 m pc ls st0) rest (RsN D wc H.size w1 a) (va_A wc H.size)) (hP : va_P D vwCl ws H) (hD : va_D A0 ws) (hp : ws.Perm (wc ++ wr)) (hS : va_S A0 s.heap H locs) (hA : ∀ q, s.heap.size ≤ q → A0 q)
    (kk : ∀ (H1 : Heap) (locs1 : List Loc), va_P D vwCl (w1 ++ wr) H1 → va_D A0 (w1 ++ wr) → va_S A0 s.heap H1 locs1 → W p l e R s m args below meth c H1 locs1 (cells + mc) (slots + ms) Q (F0 m (pc + 3) ls rest)) : W p l e R s m args below meth c H locs cells slots Q (F0 m pc ls st0) := by
  have hF := fr hD hp hS hA
  refine va_callv hr hS (fun q _ h => hF q h) hF (fun u t H1 locs1 ht hvm hw hB hz hk hS1 => ?_)
  obtain ⟨hP1, hD1⟩ := hB
  rw [ht] at hP1
  obtain ⟨a1, a2⟩ := jn hP hD hp hk hF hP1 hD1
  exact kk H1 locs1 a1 a2 hS1
end CLS
section STARTS
variable {l : Launch} {y : MethodName} {wy ws' : List Cond} {rm : Room} {D : va_G} {cy : Nat → ClassId} {av : List Value} {ws w1 : va_W} {sz mc ms : Nat} {cc : ByteArray} {maxL : Nat}
theorem st_i {res : Int32} {ty : FieldType} (hy : plainName y.cls = true) (hw : wy = Cond.code y cc maxL (some ty) :: ws') (hn : narrow ty (.int res) = .int res) (hlen : (lg_sl av).length ≤ maxL)
    (body : ∀ (p : Program) (e : Env) (s : State) (m : MethodId) (below : List Frame) (meth : Method) (c : Code) (A : Nat → Prop) (Q : State → Prop) (ls : Array Slot), p.tables.exec = Jvm.exec → c.code = cc → (∀ w ∈ wy, w.before av.toArray s = true) → s.vm.findClass y.cls = some m.cls → c.maxLocals = maxL → meth.locks = false → s.heap.size = sz → va_P D vwCl ws s.heap → va_K D vwCl (ty4 cy) s → va_D A ws → Ev A s s.heap → (∀ q, s.heap.size ≤ q → A q) → lv_has ls maxL (lv_args 0 av) →
      (∀ (r : Int32) (H : Heap) (locs : List Loc) (pc : Nat) (ls : Array Slot), r = res → va_P D vwCl w1 H → va_D A w1 → va_S A s.heap H locs → decode cc pc = .ok (.ireturn, 1) → W p l e rm s m av.toArray below meth c H locs mc ms Q (F0 m pc ls [.int r])) →
      W p l e rm s m av.toArray below meth c s.heap [] 0 0 Q (F0 m 0 ls [])) : CI l y wy rm D cy av ws sz res w1 mc ms := by
  refine Met.ofW (cc := cc) (maxL := maxL) (ret := some ty) hy hw ?_
  intro p e s m args below meth c s₁ B hml hv
  obtain ⟨rfl, hsz, hP, hK, hD0, hE⟩ := hv
  have hx := B.exec
  have hb := B.bytes
  have hr := B.returns
  have hts := atoms_spec (ws := wy) B.pre
  have hown : s.vm.findClass y.cls = some m.cls := findClass_of_methodNamed B.named
  have hlocks := B.notSynchronized
  have hD := hD0.self (sz := sz)
  have hl := lv_entry av (n := maxL) hlen
  rw [lg_entry_eq]
  refine body p e s m below meth c (va_A ws sz) _ _ hx hb hts hown hml hlocks hsz hP hK hD hE (fun q h => Or.inr (by rw [← hsz]; exact h)) hl ?_
  intro r H locs pc ls hrr hP1 hD1 hS1 hdg
  subst hrr
  exact W.zret hx hb hr hn (fun t ht hW => ⟨⟨r, (), rfl, rfl, by rw [ht]; exact hP1, hD1⟩, hS1.F ht⟩) hS1.2.2 hdg hlocks
theorem st_l {res : Int64} (hy : plainName y.cls = true) (hw : wy = Cond.code y cc maxL (some .long) :: ws') (hlen : (lg_sl av).length ≤ maxL)
    (body : ∀ (p : Program) (e : Env) (s : State) (m : MethodId) (below : List Frame) (meth : Method) (c : Code) (A : Nat → Prop) (Q : State → Prop) (ls : Array Slot), p.tables.exec = Jvm.exec → c.code = cc → (∀ w ∈ wy, w.before av.toArray s = true) → s.vm.findClass y.cls = some m.cls → c.maxLocals = maxL → meth.locks = false → s.heap.size = sz → va_P D vwCl ws s.heap → va_K D vwCl (ty4 cy) s → va_D A ws → Ev A s s.heap → (∀ q, s.heap.size ≤ q → A q) → lv_has ls maxL (lv_args 0 av) →
      (∀ (r : Int64) (H : Heap) (locs : List Loc) (pc : Nat) (ls : Array Slot), r = res → va_P D vwCl w1 H → va_D A w1 → va_S A s.heap H locs → decode cc pc = .ok (.lreturn, 1) → W p l e rm s m av.toArray below meth c H locs mc ms Q (F0 m pc ls [.long r])) →
      W p l e rm s m av.toArray below meth c s.heap [] 0 0 Q (F0 m 0 ls [])) : CL l y wy rm D cy av ws sz res w1 mc ms := by
  refine Met.ofW (cc := cc) (maxL := maxL) (ret := some .long) hy hw ?_
  intro p e s m args below meth c s₁ B hml hv
  obtain ⟨rfl, hsz, hP, hK, hD0, hE⟩ := hv
  have hx := B.exec
  have hb := B.bytes
  have hr := B.returns
  have hts := atoms_spec (ws := wy) B.pre
  have hown : s.vm.findClass y.cls = some m.cls := findClass_of_methodNamed B.named
  have hlocks := B.notSynchronized
  have hD := hD0.self (sz := sz)
  have hl := lv_entry av (n := maxL) hlen
  rw [lg_entry_eq]
  refine body p e s m below meth c (va_A ws sz) _ _ hx hb hts hown hml hlocks hsz hP hK hD hE (fun q h => Or.inr (by rw [← hsz]; exact h)) hl ?_
  intro r H locs pc ls hrr hP1 hD1 hS1 hdg
  subst hrr
  exact W.lret hx hb hr (fun t ht hW => ⟨⟨r, (), rfl, rfl, by rw [ht]; exact hP1, hD1⟩, hS1.F ht⟩) hS1.2.2 hdg hlocks
theorem st_n (hy : plainName y.cls = true) (hw : wy = Cond.code y cc maxL none :: ws') (hlen : (lg_sl av).length ≤ maxL)
    (body : ∀ (p : Program) (e : Env) (s : State) (m : MethodId) (below : List Frame) (meth : Method) (c : Code) (A : Nat → Prop) (Q : State → Prop) (ls : Array Slot), p.tables.exec = Jvm.exec → c.code = cc → (∀ w ∈ wy, w.before av.toArray s = true) → s.vm.findClass y.cls = some m.cls → c.maxLocals = maxL → meth.locks = false → s.heap.size = sz → va_P D vwCl ws s.heap → va_K D vwCl (ty4 cy) s → va_D A ws → Ev A s s.heap → (∀ q, s.heap.size ≤ q → A q) → lv_has ls maxL (lv_args 0 av) →
      (∀ (H : Heap) (locs : List Loc) (pc : Nat) (ls : Array Slot), va_P D vwCl w1 H → va_D A w1 → va_S A s.heap H locs → decode cc pc = .ok (.return_, 1) → W p l e rm s m av.toArray below meth c H locs mc ms Q (F0 m pc ls [])) →
      W p l e rm s m av.toArray below meth c s.heap [] 0 0 Q (F0 m 0 ls [])) : CN l y wy rm D cy av ws sz w1 mc ms := by
  refine Met.ofW (cc := cc) (maxL := maxL) (ret := none) hy hw ?_
  intro p e s m args below meth c s₁ B hml hv
  obtain ⟨rfl, hsz, hP, hK, hD0, hE⟩ := hv
  have hx := B.exec
  have hb := B.bytes
  have hr := B.returns
  have hts := atoms_spec (ws := wy) B.pre
  have hown : s.vm.findClass y.cls = some m.cls := findClass_of_methodNamed B.named
  have hlocks := B.notSynchronized
  have hD := hD0.self (sz := sz)
  have hl := lv_entry av (n := maxL) hlen
  rw [lg_entry_eq]
  refine body p e s m below meth c (va_A ws sz) _ _ hx hb hts hown hml hlocks hsz hP hK hD hE (fun q h => Or.inr (by rw [← hsz]; exact h)) hl ?_
  intro H locs pc ls hP1 hD1 hS1 hdg
  exact W.vret hx hb hr (fun t ht hW => ⟨⟨(), rfl, trivial, by rw [ht]; exact hP1, hD1⟩, hS1.F ht⟩) hS1.2.2 hdg hlocks
end STARTS
/-! an array's cell: only its places count -/
theorem arrV_cong (cA : ClassId) (n : Nat) (f g : Nat → Value) (h : ∀ j, j < n → f j = g j) : arrV cA n f = arrV cA n g := by
  unfold arrV
  congr 1
  apply Array.ext
  · simp
  · intro i h1 h2
    simp at h1
    simp [h i h1]
theorem vp_cong_i {cA : ClassId} {n : Nat} {f g : Nat → Int32} (h : ∀ j, j < n → f j = g j) : vp_cell cA (n, .inl f) = vp_cell cA (n, .inl g) := by
  rw [vp_cell_i, vp_cell_i]
  exact arrV_cong _ _ _ _ (fun j hj => by rw [h j hj])
theorem vP_row {D : va_G} {ws : va_W} {H : Heap} (hP : va_P D vwCl ws H) (k : Nat) {a : Nat} {cA : ClassId} {n : Nat} {f g : Nat → Int32} (hk : ws[k]? = some (a, .inl (cA, n, .inl f))) (h : ∀ j, j < n → f j = g j) : va_P D vwCl (ws.set k (a, .inl (cA, n, .inl g))) H := by
  have hl := (List.getElem?_eq_some_iff.mp hk).1
  intro i q hi
  by_cases hik : i = k
  · subst hik
    rw [List.getElem?_set_self hl] at hi
    cases hi
    have := hP i _ hk
    show H[a]? = some (vp_cell cA (n, .inl g))
    rw [← vp_cong_i h]
    exact this
  · rw [List.getElem?_set_ne (Ne.symm hik)] at hi
    exact hP i q hi
/-! values of desks, states, texts: rows of numbers -/
def mkD (r0 r1 r2 r3 r4 r5 : Nat → Int32) (c g : Int32) : RV := fun k => match k with
  | 0 => r0
  | 1 => r1
  | 2 => r2
  | 3 => r3
  | 4 => r4
  | 5 => r5
  | 6 => fun _ => c
  | _ => fun _ => g
def mkO (r0 r1 r2 r3 r4 : Nat → Int32) (c0 c1 c2 c3 c4 : Int32) : RV := fun k => match k with
  | 0 => r0
  | 1 => r1
  | 2 => r2
  | 3 => r3
  | 4 => r4
  | 5 => fun _ => c0
  | 6 => fun _ => c1
  | 7 => fun _ => c2
  | 8 => fun _ => c3
  | _ => fun _ => c4
def mkT (r0 r1 r2 : Nat → Int32) (c0 c1 c2 c3 c4 : Int32) : RV := fun k => match k with
  | 0 => r0
  | 1 => r1
  | 2 => r2
  | 3 => fun _ => c0
  | 4 => fun _ => c1
  | 5 => fun _ => c2
  | 6 => fun _ => c3
  | _ => fun _ => c4
abbrev SV : Type := RV × RV × RV
/-- the cells of a desk: 0 the object, 1 to 6 its rows -/
def cD (cy : Nat → ClassId) (a : Nat → Nat) (w : RV) : va_W :=
  [(a 0, .inr (0, [.ref (a 1), .ref (a 2), .ref (a 3), .ref (a 4), .ref (a 5), .ref (a 6), .int (w 6 0), .int (w 7 0)])),
   (a 1, .inl (cy 0, 3, .inl (w 0))), (a 2, .inl (cy 0, 64, .inl (w 1))), (a 3, .inl (cy 0, 64, .inl (w 2))), (a 4, .inl (cy 0, 64, .inl (w 3))), (a 5, .inl (cy 0, 64, .inl (w 4))), (a 6, .inl (cy 0, 26, .inl (w 5)))]
/-- a state's own cells: 0 the object, 2 the row of its desks -/
def cO (cy : Nat → ClassId) (a : Nat → Nat → Nat) (o : RV) : va_W :=
  [(a 0 0, .inr (2, [.ref (a 0 1), .ref (a 0 2), .ref (a 0 3), .ref (a 0 4), .ref (a 0 5), .ref (a 0 6), .int (o 5 0), .int (o 6 0), .int (o 7 0), .int (o 8 0), .int (o 9 0)])),
   (a 0 1, .inl (cy 0, 3, .inl (o 0))), (a 0 2, .inl (cy 2, 2, .inr (.inr (.inr (.inr (fun d => if d = 0 then some (a 1 0) else some (a 2 0))))))), (a 0 3, .inl (cy 0, 26, .inl (o 1))), (a 0 4, .inl (cy 0, 26, .inl (o 2))), (a 0 5, .inl (cy 0, 26, .inl (o 3))), (a 0 6, .inl (cy 0, 26, .inl (o 4)))]
def bS (cy : Nat → ClassId) (a : Nat → Nat → Nat) (v : SV) : List va_W := [cO cy a v.1, cD cy (a 1) v.2.1, cD cy (a 2) v.2.2]
def cS (cy : Nat → ClassId) (a : Nat → Nat → Nat) (v : SV) : va_W := (bS cy a v).flatten
def cT (cy : Nat → ClassId) (a : Nat → Nat) (x : RV) : va_W :=
  [(a 0, .inr (3, [.ref (a 1), .int (x 3 0), .ref (a 2), .int (x 4 0), .ref (a 3), .int (x 5 0), .int (x 6 0), .int (x 7 0)])),
   (a 1, .inl (cy 0, 80, .inl (x 0))), (a 2, .inl (cy 0, 300, .inl (x 1))), (a 3, .inl (cy 0, 4, .inl (x 2)))]
theorem pmI {α : Type} (l : List α) : l.Perm (l ++ []) := by rw [List.append_nil]
/-! rows of their own -/
section XR
variable {p : Program} {l : Launch} {e : Env} {R : Room} {s : State} {m : MethodId} {args : Array Value} {below : List Frame} {meth : Method} {c : Code} {H : Heap} {locs : List Loc} {cells slots : Nat} {Q : State → Prop}
variable {cc : ByteArray} {pc : Nat} {ls : Array Slot} {rest : List Value} {D : va_G} {cl : List vw_C} {A : Nat → Prop} {a : Nat} {tys : List (ClassId × FieldType)} {ws : va_W} {H0 : Heap}
theorem x_iald (hexec : p.tables.exec = Jvm.exec) (hb : c.code = cc) (hK : va_K D cl tys s) (hP : va_P D cl ws H) (q0 t0 : Nat) {cA : ClassId} {n j : Nat} {f : Nat → Int32} (ha : ws[q0]? = some (a, .inl (cA, n, .inl f))) (ht : tys[t0]? = some (cA, .int)) {i : Int32} (hj : i.toNatClampNeg = j) (hin : vp_in i n) (hdg : decode cc pc = .ok (.iaload, 1))
    (kk : W p l e R s m args below meth c H locs cells slots Q (F0 m (pc + 1) ls (.int (f j) :: rest))) : W p l e R s m args below meth c H locs cells slots Q (F0 m pc ls (.int i :: .ref a :: rest)) := by
  subst hj
  exact va_iald hexec hb hK hP q0 t0 ha ht hin hdg kk
theorem x_iast (hexec : p.tables.exec = Jvm.exec) (hb : c.code = cc) (hK : va_K D cl tys s) (hP : va_P D cl ws H) (hD : va_D A ws) (hS : va_S A H0 H locs) (q0 t0 : Nat) {cA : ClassId} {n j : Nat} {f : Nat → Int32} (ha : ws[q0]? = some (a, .inl (cA, n, .inl f))) (ht : tys[t0]? = some (cA, .int)) {i : Int32} {x : Int32} (hj : i.toNatClampNeg = j) (hin : vp_in i n) (hdg : decode cc pc = .ok (.iastore, 1))
    (kk : ∀ (H1 : Heap) (locs1 : List Loc), va_P D cl (ws.set q0 (a, .inl (cA, n, .inl (upd f j x)))) H1 → va_D A (ws.set q0 (a, .inl (cA, n, .inl (upd f j x)))) → va_S A H0 H1 locs1 → W p l e R s m args below meth c H1 locs1 cells slots Q (F0 m (pc + 1) ls rest)) : W p l e R s m args below meth c H locs cells slots Q (F0 m pc ls (.int x :: .int i :: .ref a :: rest)) := by
  subst hj
  exact va_iast hexec hb hK hP hD hS q0 t0 ha ht hin hdg kk
theorem x_aldq (hexec : p.tables.exec = Jvm.exec) (hb : c.code = cc) (hK : va_K D cl tys s) (hP : va_P D cl ws H) (q0 t0 : Nat) {cA : ClassId} {C : String} {n : Nat} {f : Nat → Option Nat} (ha : ws[q0]? = some (a, .inl (cA, n, .inr (.inr (.inr (.inr f)))))) (ht : tys[t0]? = some (cA, .object C)) {i : Int32} (hin : vp_in i n) {v : Value} (hv : va_rf (f i.toNatClampNeg) = v) (hdg : decode cc pc = .ok (.aaload, 1))
    (kk : W p l e R s m args below meth c H locs cells slots Q (F0 m (pc + 1) ls (v :: rest))) : W p l e R s m args below meth c H locs cells slots Q (F0 m pc ls (.int i :: .ref a :: rest)) := by
  subst hv
  exact va_aldq hexec hb hK hP q0 t0 ha ht hin hdg kk
theorem cpy_row {f g : Nat → Int32} {N : Nat} : ∀ j, j < N → va_cpy f g 0 0 N j = f j := by
  intro j hj
  unfold va_cpy
  rw [if_pos ⟨Nat.zero_le _, by omega⟩]
  congr 1
  omega
theorem set_set' {α : Type} : ∀ (l : List α) (i : Nat) (x y : α), (l.set i x).set i y = l.set i y
  | [], i, x, y => rfl
  | b :: t, 0, x, y => rfl
  | b :: t, i + 1, x, y => by
    show b :: (t.set i x).set i y = b :: t.set i y
    rw [set_set' t i x y]
theorem x_cpy (hexec : p.tables.exec = Jvm.exec) (hb : c.code = cc) (hml : c.maxLocals = ls.size) {own : String} {index : Nat} (hown : s.vm.findClass own = some m.cls) (hlink : (Cond.methodLink own index arraycopyName).before args s = true) (hnat : (Cond.native arraycopyName).before args s = true) (hstat : (Cond.static arraycopyName).before args s = true) (hini : (Cond.initialized "java/lang/System").before args s = true)
    (hK : va_K D vwCl tys s) (hP : va_P D vwCl ws H) (hD : va_D A ws) (hS : va_S A H0 H locs) (q0 q1 t0 : Nat) {a0 N : Nat} {cI : ClassId} {f g : Nat → Int32} (ha0 : ws[q0]? = some (a0, .inl (cI, N, .inl f))) (ha1 : ws[q1]? = some (a, .inl (cI, N, .inl g))) (ht0 : tys[t0]? = some (cI, .int)) {n : Int32} (hn : n.toNatClampNeg = N) (hn0 : ¬ n < 0)
    (hframes : 1 ≤ R.frames) (hlocals : (rest.map fun v => v.category).sum + (nativeFrameWords "java/lang/System" "arraycopy" 5 + 11) ≤ R.locals) (hdg : decode cc pc = .ok (.invokestatic index, 3))
    (kk : ∀ (H1 : Heap) (locs1 : List Loc), va_P D vwCl (ws.set q1 (a, .inl (cI, N, .inl f))) H1 → va_D A (ws.set q1 (a, .inl (cI, N, .inl f))) → va_S A H0 H1 locs1 → W p l e R s m args below meth c H1 locs1 cells slots Q (F0 m (pc + 3) ls rest)) : W p l e R s m args below meth c H locs cells slots Q (F0 m pc ls (.int n :: .int 0 :: .ref a :: .int 0 :: .ref a0 :: rest)) := by
  refine va_copyi hexec hb hml hown hlink hnat hstat hini hK hP hD hS q0 q1 t0 t0 ha0 ha1 ht0 ht0 rfl (by decide) (by decide) hn0 (by rw [hn]; simp) (by rw [hn]; simp) (fun i hi => rfl) hframes hlocals hdg (fun H1 locs1 hP1 hD1 hS1 => ?_)
  have hl := (List.getElem?_eq_some_iff.mp ha1).1
  have e0 : (0 : Int32).toNatClampNeg = 0 := rfl
  rw [hn, e0] at hP1 hD1
  have h2 := vP_row hP1 q1 (g := f) (List.getElem?_set_self hl) (fun j hj => cpy_row j hj)
  rw [set_set'] at h2
  have h3 := va_D.set (e := .inl (cI, N, .inl f)) hD1 (List.getElem?_set_self hl)
  rw [set_set'] at h3
  exact kk H1 locs1 h2 h3 hS1
end XR
/-! java.util.Arrays.fill(int[], int) -/
abbrev rFill : Room := { frames := 0, cells := 0, slots := 0, locals := 0 }
set_option maxHeartbeats 4000000 in
set_option maxRecDepth 100000 in
theorem c_fill (l : Launch) (D : va_G) (cy : Nat → ClassId) (a n : Nat) (f : Nat → Int32) (v : Int32) (sz : Nat) (hn : n < 2 ^ 31) : CN l yJ7_fill_53178 wsJ7_fill_53178 rFill D cy [.ref a, .int v] [(a, .inl (cy 0, n, .inl f))] sz [(a, .inl (cy 0, n, .inl (fun _ => v)))] 0 0 := by
  refine st_n (cc := cJ7_fill_53178) (maxL := 4) (by decide) rfl (Nat.le_of_ble_eq_true rfl) ?_
  intro pp e s m below meth c A Q ls hx hb hts hown hml hlocks hsz hP hK hD hE hA hl hret
  subst hsz
  have hl : lv_has ls 4 [(0, .ref a), (1, .int v)] := hl
  have hS : va_S A s.heap s.heap [] := va_S.rf
  have hloop : ∀ (k i : Nat) (g : Nat → Int32), i + k = n → (∀ j, j < i → g j = v) → ∀ (H : Heap) (locs : List Loc), va_P D vwCl [(a, .inl (cy 0, n, .inl g))] H → va_D A [(a, .inl (cy 0, n, .inl g))] → va_S A s.heap H locs → ∀ ls : Array Slot, lv_has ls 4 [(2, .int (nI i)), (3, .int (nI n)), (0, .ref a), (1, .int v)] →
      W pp l e rFill s m ([.ref a, .int v] : List Value).toArray below meth c H locs 0 0 Q (F0 m 5 ls []) := by
    intro k
    induction k with
    | zero =>
      intro i g hi hg H locs hP hD hS ls hl
      have hin : i = n := by omega
      refine lv_iload_n hx hb dJ7_fill_53178_5 rfl (lv_at hl 0 rfl) ?_
      refine lv_iload_n hx hb dJ7_fill_53178_6 rfl (lv_at hl 1 rfl) ?_
      refine lv_icmp_ge (tgt := 20) hx hb dJ7_fill_53178_7 (by decide) (fun c1 => ?_) (fun c1 => absurd (by rw [hin]; exact Int32.le_refl _) c1)
      have hP2 := vP_row hP 0 (g := fun _ => v) rfl (fun j hj => hg j (by omega))
      have hD2 := va_D.set (e := .inl (cy 0, n, .inl (fun _ => v))) hD (p := 0) rfl
      exact hret H locs _ ls hP2 hD2 hS dJ7_fill_53178_20
    | succ k ih =>
      intro i g hi hg H locs hP hD hS ls hl
      refine lv_iload_n hx hb dJ7_fill_53178_5 rfl (lv_at hl 0 rfl) ?_
      refine lv_iload_n hx hb dJ7_fill_53178_6 rfl (lv_at hl 1 rfl) ?_
      refine lv_icmp_ge (tgt := 20) hx hb dJ7_fill_53178_7 (by decide) (fun c1 => absurd c1 (nI_ge (by omega) hn)) (fun c1 => ?_)
      refine lv_aload_n hx hb dJ7_fill_53178_10 rfl (lv_at hl 2 rfl) ?_
      refine lv_iload_n hx hb dJ7_fill_53178_11 rfl (lv_at hl 0 rfl) ?_
      refine lv_iload_n hx hb dJ7_fill_53178_12 rfl (lv_at hl 3 rfl) ?_
      refine x_iast (j := i) hx hb hK hP hD hS 0 0 rfl rfl (nI_clamp (by omega)) (vp_in_nI (by omega) hn) dJ7_fill_53178_13 (fun H locs hP hD hS => ?_)
      refine lv_iinc (v := nI (i + 1)) (lv' := [(2, .int (nI (i + 1))), (3, .int (nI n)), (0, .ref a), (1, .int v)]) hx hb dJ7_fill_53178_14 hl (k := 0) rfl (nI_1 i) (by decide) rfl (fun ls hl => ?_)
      refine lv_goto (tgt := 5) hx hb dJ7_fill_53178_17 (by decide) ?_
      refine ih (i + 1) (upd g i v) (by omega) (fun j hj => ?_) H locs hP hD hS ls hl
      unfold upd
      by_cases hji : j = i
      · rw [if_pos hji]
      · rw [if_neg hji]
        exact hg j (by omega)
  refine lv_iconst (v := 0) hx hb dJ7_fill_53178_0 (by decide) ?_
  refine lv_istore_n (lv' := [(2, .int 0), (0, .ref a), (1, .int v)]) hx hb dJ7_fill_53178_1 rfl hl (by decide) rfl (fun ls hl => ?_)
  refine lv_aload_n hx hb dJ7_fill_53178_2 rfl (lv_at hl 1 rfl) ?_
  refine va_alen hx hb hK hP 0 0 rfl rfl (v := nI n) rfl dJ7_fill_53178_3 ?_
  refine lv_istore_n (lv' := [(3, .int (nI n)), (2, .int 0), (0, .ref a), (1, .int v)]) hx hb dJ7_fill_53178_4 rfl hl (by decide) rfl (fun ls hl => ?_)
  exact hloop n 0 f (by omega) (fun j hj => absurd hj (Nat.not_lt_zero j)) s.heap [] hP hD hS ls (lv_sub hl [1, 0, 2, 3] rfl)
section XF
variable {p : Program} {l : Launch} {e : Env} {R : Room} {s : State} {m : MethodId} {args : Array Value} {below : List Frame} {meth : Method} {c : Code} {H : Heap} {locs : List Loc} {cells slots : Nat} {Q : State → Prop}
variable {cc : ByteArray} {pc : Nat} {ls : Array Slot} {rest : List Value} {D : va_G} {cy : Nat → ClassId} {A : Nat → Prop} {ws : va_W}
theorem x_fill {Ts : List Cond} {own : String} {index nL : Nat} (S : CallFix p m c cc nL s args Ts own) (cw : CallB R s args own index yJ7_fill_53178 cJ7_fill_53178 4 none wsJ7_fill_53178 rFill 0 0 2 ∧ (Cond.static yJ7_fill_53178).before args s = true)
    (hK : va_K D vwCl (ty4 cy) s) (hP : va_P D vwCl ws H) (hD : va_D A ws) (hS : va_S A s.heap H locs) (hA : ∀ q, s.heap.size ≤ q → A q) (hE : Ev A s s.heap) (q0 : Nat) {a n : Nat} {f : Nat → Int32} {v : Int32} (ha : ws[q0]? = some (a, .inl (cy 0, n, .inl f))) (hn : n < 2 ^ 31)
    (hsize : ls.size = nL) (hW : 2 * (F0 m pc ls (.int v :: .ref a :: rest)).monitorRoom + (rest.map fun v => v.category).sum ≤ 8) (hdg : decode cc pc = .ok (.invokestatic index, 3)) (hf : cells + 0 ≤ R.cells ∧ slots + 0 ≤ R.slots)
    (kk : ∀ (H1 : Heap) (locs1 : List Loc), va_P D vwCl (ws.set q0 (a, .inl (cy 0, n, .inl (fun _ => v)))) H1 → va_D A (ws.set q0 (a, .inl (cy 0, n, .inl (fun _ => v)))) → va_S A s.heap H1 locs1 → W p l e R s m args below meth c H1 locs1 cells slots Q (F0 m (pc + 3) ls rest)) : W p l e R s m args below meth c H locs cells slots Q (F0 m pc ls (.int v :: .ref a :: rest)) := by
  have hp := pmC ws q0 _ (a, (.inl (cy 0, n, .inl (fun _ => v)) : va_E)) ha
  have hp1 : ws.Perm ([(a, (.inl (cy 0, n, .inl f) : va_E))] ++ ws.eraseIdx q0) := hp.1
  refine cl_n (va_runS (As := [.ref a, .int v]) (rest := rest) S (c_fill l D cy a n f v H.size hn) cw ⟨blU, preU hP hD hp1 hK hE hS hA⟩ rfl rfl hsize rfl hW hdg hf) hP hD hp1 hS hA (fun H1 locs1 hP1 hD1 hS1 => ?_)
  exact kk H1 locs1 (vP_perm hP1 hp.2) (vD_perm hD1 hp.2) hS1
end XF
/-! numbers -/
theorem fa_le' (a b : Int32) : a ≤ b ↔ a.toInt ≤ b.toInt := Int32.le_iff_toInt_le
theorem fa_lt' (a b : Int32) : a < b ↔ a.toInt < b.toInt := Int32.lt_iff_toInt_lt
theorem tncn (y : Int32) : (y.toNatClampNeg : Int) = max y.toInt 0 := by
  show (y.toInt.toNat : Int) = _
  first | exact Int.ofNat_toNat _ | exact Int.toNat_eq_max _ | omega
