/-! ===== the law's facts: the whole object ===== -/
def SB (B : Nat) (v : SV) : Prop := ∃ N, N ≤ B ∧ SInv N v
def HInv (B : Nat) (h : HV) : Prop := hok h ∧ ∀ i, i < 14 → SB B (h.2.2 i)
def BInv (B : Nat) (V : BV) : Prop := Tok V.1 ∧ SB B V.2.1 ∧ SB B V.2.2.2.1 ∧ SB B V.2.2.2.2.1 ∧ HInv B V.2.2.2.2.2.1
theorem SB.mono {B C : Nat} {v : SV} (h : SB B v) (hc : B ≤ C) : SB C v := by
  obtain ⟨N, a, b⟩ := h
  exact ⟨N, Nat.le_trans a hc, b⟩
theorem HInv.mono {B C : Nat} {v : HV} (h : HInv B v) (hc : B ≤ C) : HInv C v := ⟨h.1, fun i hi => (h.2 i hi).mono hc⟩
theorem BInv.mono {B C : Nat} {V : BV} (h : BInv B V) (hc : B ≤ C) : BInv C V := ⟨h.1, h.2.1.mono hc, h.2.2.1.mono hc, h.2.2.2.1.mono hc, h.2.2.2.2.mono hc⟩
theorem HInv.rem {B : Nat} {h : HV} {v : SV} (hh : HInv B h) (hv : SB B v) : HInv B (hrem h v) := by
  obtain ⟨⟨h1, h2⟩, h3⟩ := hh
  unfold hrem
  split
  · refine ⟨⟨Nat.mod_lt _ (by decide), Nat.le_refl _⟩, fun i hi => ?_⟩
    show SB B (va_up h.2.2 (((h.1 + 1) % 14 + 13) % 14) v i)
    unfold va_up
    split
    · exact hv
    · exact h3 i hi
  · rename_i hc
    refine ⟨⟨h1, ?_⟩, fun i hi => ?_⟩
    · show h.2.1 + 1 ≤ 14
      omega
    · show SB B (va_up h.2.2 ((h.1 + h.2.1) % 14) v i)
      unfold va_up
      split
      · exact hv
      · exact h3 i hi
theorem HInv.top {B : Nat} {h : HV} (hh : HInv B h) : SB B (htop h) := hh.2 _ (Nat.mod_lt _ (by decide))
theorem HInv.pop {B : Nat} {h : HV} (hh : HInv B h) : HInv B (hpop h) := ⟨⟨hh.1.1, Nat.le_trans (Nat.sub_le _ _) hh.1.2⟩, hh.2⟩
theorem BInv.ho {B : Nat} {V : BV} (h : BInv B V) : hok V.2.2.2.2.2.1 := h.2.2.2.2.1
theorem BInv.sz {B : Nat} {V : BV} (h : BInv B V) : szok (V.2.1.1 0 0) := by
  obtain ⟨N, _, hs⟩ := h.2.1
  exact hs.szo
theorem BInv.len {B : Nat} {V : BV} (h : BInv B V) : ∃ n, n ≤ 80 ∧ V.1 3 0 = nI n := h.1.1
theorem BInv.lg {B : Nat} {V : BV} (h : BInv B V) : ∃ g, g < 26 ∧ V.1 6 0 = nI g := h.1.2
theorem BInv.errorP {B : Nat} {V : BV} (h : BInv B V) : BInv B (w_X5_errorPosition V) := ⟨read_tok h.1, h.2⟩
theorem BInv.branchesP {B : Nat} {V : BV} (h : BInv B V) : BInv B (w_X5_branches V) := ⟨read_tok h.1, h.2⟩
theorem BInv.clear {B : Nat} {V : BV} (h : BInv B V) : BInv B (w_X5_clearText V) := ⟨⟨⟨0, by omega, nI_0.symm⟩, h.1.2⟩, h.2⟩
theorem add_tok {x : RV} (h : Tok x) (ch : Int32) : Tok (w_X4_add x ch) := by
  obtain ⟨⟨n, h1, h2⟩, hg⟩ := h
  unfold w_X4_add
  split
  · rename_i hc
    rw [h2] at hc
    have h3 : n < 80 := (nI_ltI (b := 80) (by omega) (by decide)).mp hc
    exact ⟨⟨n + 1, by omega, by show x 3 0 + 1 = nI (n + 1); rw [h2, nI_1]⟩, hg⟩
  · exact ⟨⟨n, h1, h2⟩, hg⟩
theorem BInv.append {B : Nat} {V : BV} (h : BInv B V) (ch : Int32) : BInv B (w_X5_append V ch) := by
  unfold w_X5_append
  repeat' split
  all_goals first
    | exact h
    | exact ⟨add_tok h.1 ch, h.2⟩
theorem BInv.sub {B : Nat} {V : BV} (h : BInv B V) {C : Nat} (hc : B ≤ C) {v : SV} (hv : SB C v) : BInv C (V.1, v, V.2.2.1, V.2.2.2.1, V.2.2.2.2.1, (hrem V.2.2.2.2.2.1 V.2.1), V.2.2.2.2.2.2) :=
  ⟨h.1, hv, h.2.2.1.mono hc, h.2.2.2.1.mono hc, (h.2.2.2.2.mono hc).rem (h.2.1.mono hc)⟩
theorem BInv.setDesk {B : Nat} {V : BV} (h : BInv B V) (d what val2 : Int32) : BInv B (w_X5_setDesk V d what val2) := by
  have h2 := h.2.1
  obtain ⟨N, hN, hs⟩ := h2
  unfold w_X5_setDesk
  repeat' split
  all_goals first
    | exact h
    | exact h.sub (Nat.le_refl _) ⟨0, Nat.zero_le _, hs.desk _ _ _⟩
theorem BInv.set {B : Nat} {V : BV} (h : BInv B V) (what val2 : Int32) : BInv B (w_X5_set V what val2) := by
  have h2 := h.2.1
  obtain ⟨N, hN, hs⟩ := h2
  unfold w_X5_set
  split
  · exact h
  · rename_i hc
    exact h.sub (Nat.le_refl _) ⟨0, Nat.zero_le _, hs.both hc⟩
theorem BInv.grow {B : Nat} {V : BV} (h : BInv B V) (d i val2 : Int32) : BInv B (w_X5_strengthen V d i val2) := by
  have h2 := h.2.1
  obtain ⟨N, hN, z, m, q, hs, hK, hD1, hD2⟩ := h2
  unfold w_X5_strengthen
  repeat' split
  all_goals first
    | exact h
    | exact h.sub (Nat.le_refl _) ⟨N, hN, z, m, q, hs, hK, hD1.same rfl rfl rfl rfl, hD2⟩
    | exact h.sub (Nat.le_refl _) ⟨N, hN, z, m, q, hs, hK, hD1, hD2.same rfl rfl rfl rfl⟩
theorem place_of {pl : Int32} (h : o_X5_checkPlace pl = 0) : ∃ p, p < 26 ∧ pl = nI p := by
  unfold o_X5_checkPlace at h
  split at h
  · exact absurd h (by decide)
  · rename_i hc
    exact vp_in_of (isPlace_of hc) (by decide)
theorem BInv.branch {B : Nat} {V : BV} (h : BInv B V) (hB : B < 2 ^ 30) (pl tk : Int32) : BInv (B + 1) (w_X5_branch V pl tk) := by
  have h2 := h.2.1
  obtain ⟨N, hN, hs⟩ := h2
  unfold w_X5_branch
  split
  · rename_i hc
    obtain ⟨p, hp, ep⟩ := place_of hc
    subst ep
    exact h.sub (by omega) ⟨N + 1, by omega, hs.go hp (by omega) tk⟩
  · exact h.mono (by omega)
theorem SB.all {B : Nat} {v : SV} (h : SB B v) (hB : B + 300 < 2 ^ 30) {x : RV} (hx : stepok x) : SB (B + 300) (w_X3_goAll v x) := by
  obtain ⟨N, hN, hs⟩ := h
  have h300 : stepsOf x ≤ 300 := Nat.min_le_right _ _
  exact ⟨N + stepsOf x, by omega, hs.goes hx (by omega) _ (Nat.le_refl _)⟩
theorem BInv.play {B : Nat} {V : BV} (h : BInv B V) (hB : B + 300 < 2 ^ 30) : BInv (B + 300) (w_X5_play V) := by
  unfold w_X5_play
  split
  · exact (show BInv B (w_X4_isPlayable V.1, V.2) from ⟨read_tok h.1, h.2⟩).mono (by omega)
  · rename_i hc
    have h1 := BInv.sub (V := (w_X4_isPlayable V.1, V.2)) ⟨read_tok h.1, h.2⟩ (by omega : B ≤ B + 300) (h.2.1.all hB (stepok_of h.len h.lg hc))
    exact h1
theorem undo_0 {V : BV} (hc : V.2.2.2.2.2.1.2.1 = 0) : w_X5_undo V = V ∧ o_X5_undo V = (-9999003, 0) := by
  unfold w_X5_undo o_X5_undo
  rw [if_pos hc, if_pos hc, if_pos hc, if_pos rfl, if_pos rfl]
  exact ⟨rfl, rfl⟩
theorem undo_1 {V : BV} (hc : ¬ V.2.2.2.2.2.1.2.1 = 0) : w_X5_undo V = (V.1, htop V.2.2.2.2.2.1, V.2.2.1, V.2.2.2.1, V.2.2.2.2.1, hpop V.2.2.2.2.2.1, V.2.2.2.2.2.2) ∧ o_X5_undo V = (0, nI (V.2.2.2.2.2.1.2.1 - 1)) := by
  unfold w_X5_undo o_X5_undo
  rw [if_neg hc, if_neg hc, if_neg hc, if_neg (by decide), if_neg (by decide)]
  exact ⟨rfl, rfl⟩
theorem BInv.undo {B : Nat} {V : BV} (h : BInv B V) : BInv B (w_X5_undo V) := by
  by_cases hc : V.2.2.2.2.2.1.2.1 = 0
  · rw [(undo_0 hc).1]
    exact h
  · rw [(undo_1 hc).1]
    exact ⟨h.1, h.2.2.2.2.top, h.2.2.1, h.2.2.2.1, h.2.2.2.2.pop⟩
theorem BInv.wouldB {B : Nat} {V : BV} (h : BInv B V) : BInv B (w_X5_wouldBring V) := by
  unfold w_X5_wouldBring
  split
  · exact ⟨read_tok h.1, h.2⟩
  · exact ⟨read_tok h.1, h.2⟩
theorem BInv.best {B : Nat} {V : BV} (h : BInv B V) (d what : Int32) : BInv B (w_X5_bestSetting V d what) := by
  unfold w_X5_bestSetting
  split
  · exact ⟨read_tok h.1, h.2⟩
  · exact ⟨read_tok h.1, h.2⟩
theorem BInv.mixing {B : Nat} {V : BV} (h : BInv B V) (d : Int32) : BInv B (w_X5_bestMixing V d) := by
  unfold w_X5_bestMixing
  split
  · exact h.best _ _
  · exact h
theorem BInv.length {B : Nat} {V : BV} (h : BInv B V) (d : Int32) : BInv B (w_X5_bestLength V d) := by
  unfold w_X5_bestLength
  split
  · exact h.best _ _
  · exact h
theorem BInv.holdsP {B : Nat} {V : BV} (h : BInv B V) (pl : Int32) : BInv B (w_X5_holds V pl) := by
  unfold w_X5_holds
  split
  · exact ⟨h.1, h.2.1, h.2.2.1, h.2.2.2.1, h.2.2.2.2⟩
  · exact ⟨h.1, h.2.1, h.2.2.1, h.2.2.2.1, h.2.2.2.2⟩
theorem BInv.script {B : Nat} {V : BV} (h : BInv B V) (n : Int32) (sc : Int64) : BInv B (w_X5_runScript V n sc) := by
  unfold w_X5_runScript
  repeat' split
  all_goals exact ⟨h.1, h.2.1, h.2.2.1, h.2.2.2.1, h.2.2.2.2⟩
theorem BInv.sim {B : Nat} {V : BV} (h : BInv B V) (seed : Int64) (n : Int32) : BInv B (w_X5_simulate V seed n) := by
  unfold w_X5_simulate
  repeat' split
  all_goals exact ⟨h.1, h.2.1, h.2.2.1, h.2.2.2.1, h.2.2.2.2⟩
theorem BInv.save {B : Nat} {V : BV} (h : BInv B V) (slot : Int32) : BInv B (w_X5_save V slot) := by
  unfold w_X5_save
  repeat' split
  all_goals first
    | exact h
    | exact ⟨h.1, h.2.1, h.2.1, h.2.2.2.1, h.2.2.2.2⟩
    | exact ⟨h.1, h.2.1, h.2.2.1, h.2.1, h.2.2.2.2⟩
theorem BInv.restore {B : Nat} {V : BV} (h : BInv B V) (slot : Int32) : BInv B (w_X5_restore V slot) := by
  have hh : HInv B (V.2.2.2.2.2.1.1, 0, V.2.2.2.2.2.1.2.2) := ⟨⟨h.2.2.2.2.1.1, Nat.zero_le _⟩, h.2.2.2.2.2⟩
  unfold w_X5_restore
  repeat' split
  all_goals first
    | exact h
    | exact ⟨h.1, h.2.2.1, h.2.2.1, h.2.2.2.1, hh⟩
    | exact ⟨h.1, h.2.2.2.1, h.2.2.1, h.2.2.2.1, hh⟩
theorem BInv.start : BInv 0 bI := by
  have h1 : SB 0 vI := ⟨0, Nat.le_refl _, SInv.anew (z := 4) (m := 2) (q := 2) ⟨⟨by omega, by omega, rfl⟩, ⟨by omega, by omega, rfl⟩, by omega, rfl⟩⟩
  exact ⟨⟨⟨0, by omega, nI_0.symm⟩, ⟨0, by omega, nI_0.symm⟩⟩, h1, h1, h1, ⟨⟨by decide, by decide⟩, fun _ _ => h1⟩⟩
/-! a call of the law, with what is known of it -/
theorem cca (l : Launch) (hlt : l.stackTraces = false) (D : va_G) (cy : Nat → ClassId) (ad : AD) {B : Nat} {V V' : BV} (hB : BInv B V) {what a b c r : Int32} (hr : r_L_call V what a b c = r) (hw : w_L_call V what a b c = V') (hsh : what = 15 → ¬ o_X5_checkPlace b = 0) (sz : Nat) :
    CI l yL_call wsL_call rL_call D cy [.ref (ad 0 0 0), .int what, .int a, .int b, .int c] (wB cy ad V) sz r (wB cy ad V') 3 18 := by
  subst hr
  subst hw
  exact c_L_call l hlt D cy ad V what a b c sz hB.ho hB.sz hB.len hB.lg hsh
theorem n15 {w : Int32} {P : Prop} (h : w ≠ 15) : w = 15 → P := fun e => absurd e h
/-! the end of a method: its world is named there -/
def RsX {ι : Type} (D : va_G) (ws : va_W) (sz : Nat) (res : Int32) (post : ι → Prop) (w1 : ι → va_W) : Array Value → State → Outcome → State → Prop := va_Qi (fun (r : Int32) (u : ι) => r = res ∧ post u) (fun u t => BW D ws sz (w1 u) t) (va_A ws sz)
def CQ {ι : Type} (l : Launch) (y : MethodName) (wy : List Cond) (rm : Room) (D : va_G) (cy : Nat → ClassId) (av : List Value) (ws : va_W) (sz : Nat) (res : Int32) (post : ι → Prop) (w1 : ι → va_W) (mc ms : Nat) : Prop := Met l y wy rm (PU D cy av ws sz) (RsX D ws sz res post w1) mc ms (va_A ws sz)
section CLQ
variable {p : Program} {l : Launch} {e : Env} {R : Room} {s : State} {m : MethodId} {args : Array Value} {below : List Frame} {meth : Method} {c : Code} {H : Heap} {locs : List Loc} {cells slots : Nat} {Q : State → Prop}
variable {pc : Nat} {ls : Array Slot} {rest st0 : List Value} {a : Array Value} {A0 : Nat → Prop} {mc ms : Nat} {D : va_G} {cy : Nat → ClassId} {ws wc wr : va_W} {ι : Type} {post : ι → Prop} {w1 : ι → va_W}
theorem cl_q {res : Int32} (hr : va_Run p l e R s m args below meth c H locs cells slots mc ms (F0 m pc ls st0) rest (RsX D wc H.size res post w1 a) (va_A wc H.size)) (hP : va_P D vwCl ws H) (hD : va_D A0 ws) (hp : ws.Perm (wc ++ wr)) (hS : va_S A0 s.heap H locs) (hA : ∀ q, s.heap.size ≤ q → A0 q)
    (kk : ∀ (u : ι) (H1 : Heap) (locs1 : List Loc), post u → va_P D vwCl (w1 u ++ wr) H1 → va_D A0 (w1 u ++ wr) → va_S A0 s.heap H1 locs1 → W p l e R s m args below meth c H1 locs1 (cells + mc) (slots + ms) Q (F0 m (pc + 3) ls (.int res :: rest))) : W p l e R s m args below meth c H locs cells slots Q (F0 m pc ls st0) := by
  have hF := fr hD hp hS hA
  refine va_calli hr hS (fun q _ h => hF q h) hF (fun r u t H1 locs1 ht hvm hw hB hz hk hS1 => ?_)
  obtain ⟨hP1, hD1⟩ := hB
  rw [ht] at hP1
  obtain ⟨a1, a2⟩ := jn hP hD hp hk hF hP1 hD1
  obtain ⟨hw, hu⟩ := hw
  subst hw
  exact kk u H1 locs1 hu a1 a2 hS1
end CLQ
section STARTQ
variable {l : Launch} {y : MethodName} {wy ws' : List Cond} {rm : Room} {D : va_G} {cy : Nat → ClassId} {av : List Value} {ws : va_W} {sz mc ms : Nat} {cc : ByteArray} {maxL : Nat} {ι : Type} {post : ι → Prop} {w1 : ι → va_W}
theorem st_q {res : Int32} {ty : FieldType} (hy : plainName y.cls = true) (hw : wy = Cond.code y cc maxL (some ty) :: ws') (hn : narrow ty (.int res) = .int res) (hlen : (lg_sl av).length ≤ maxL)
    (body : ∀ (p : Program) (e : Env) (s : State) (m : MethodId) (below : List Frame) (meth : Method) (c : Code) (A : Nat → Prop) (Q : State → Prop) (ls : Array Slot), p.tables.exec = Jvm.exec → c.code = cc → (∀ w ∈ wy, w.before av.toArray s = true) → s.vm.findClass y.cls = some m.cls → c.maxLocals = maxL → meth.locks = false → s.heap.size = sz → va_P D vwCl ws s.heap → va_K D vwCl (ty4 cy) s → va_D A ws → Ev A s s.heap → (∀ q, s.heap.size ≤ q → A q) → lv_has ls maxL (lv_args 0 av) →
      (∀ (u : ι) (r : Int32) (H : Heap) (locs : List Loc) (pc : Nat) (ls : Array Slot), post u → r = res → va_P D vwCl (w1 u) H → va_D A (w1 u) → va_S A s.heap H locs → decode cc pc = .ok (.ireturn, 1) → W p l e rm s m av.toArray below meth c H locs mc ms Q (F0 m pc ls [.int r])) →
      W p l e rm s m av.toArray below meth c s.heap [] 0 0 Q (F0 m 0 ls [])) : CQ l y wy rm D cy av ws sz res post w1 mc ms := by
  refine Met.ofW (cc := cc) (maxL := maxL) (ret := some ty) hy hw ?_
  intro p e s m args below meth c s₁ B hml hv
  obtain ⟨rfl, hsz, hP, hK, hD0, hE⟩ := hv
  have hx := B.exec
  have hb := B.bytes
  have hr := B.returns
  have hts := atoms_spec (ws := wy) B.pre
  have hown : s.vm.findClass y.cls = some m.cls := findClass_of_methodNamed B.named
  have hlocks := B.notSynchronized
  have hD := hD0.self (sz := sz)
  have hl := lv_entry av (n := maxL) hlen
  rw [lg_entry_eq]
  refine body p e s m below meth c (va_A ws sz) _ _ hx hb hts hown hml hlocks hsz hP hK hD hE (fun q h => Or.inr (by rw [← hsz]; exact h)) hl ?_
  intro u r H locs pc ls hu hrr hP1 hD1 hS1 hdg
  subst hrr
  exact W.zret hx hb hr hn (fun t ht hW => ⟨⟨r, u, rfl, ⟨rfl, hu⟩, by rw [ht]; exact hP1, hD1⟩, hS1.F ht⟩) hS1.2.2 hdg hlocks
end STARTQ
