/-! ===== the law: a call and its catch ===== -/
section STH
variable {l : Launch} {y : MethodName} {wy ws' : List Cond} {rm : Room} {D : va_G} {cy : Nat → ClassId} {av : List Value} {ws w1 : va_W} {sz mc ms : Nat} {cc : ByteArray} {maxL : Nat} {hh : List (Nat × Nat × Nat × Nat)}
/-- a method with handlers that lets no exception out -/
theorem st_h {res : Int32} (hy : plainName y.cls = true) (hw : wy = Cond.codeWith y cc maxL (some .int) hh :: ws') (hlen : (lg_sl av).length ≤ maxL)
    (body : ∀ (p : Program) (e : Env) (s : State) (m : MethodId) (below : List Frame) (meth : Method) (c : Code) (A : Nat → Prop) (Q : State → Prop) (ls : Array Slot), p.tables.exec = Jvm.exec → c.code = cc → (∀ w ∈ wy, w.before av.toArray s = true) → s.vm.findClass y.cls = some m.cls → c.maxLocals = maxL → meth.locks = false → c.exceptionTable.toList = tableOf hh → s.heap.size = sz → va_P D vwCl ws s.heap → va_K D vwCl (ty4 cy) s → va_D A ws → Ev A s s.heap → (∀ q, s.heap.size ≤ q → A q) → lv_has ls maxL (lv_args 0 av) →
      (∀ (r : Int32) (H : Heap) (locs : List Loc) (pc : Nat) (ls : Array Slot), r = res → va_P D vwCl w1 H → va_D A w1 → va_S A s.heap H locs → decode cc pc = .ok (.ireturn, 1) → W p l e rm s m av.toArray below meth c H locs mc ms Q (F0 m pc ls [.int r])) →
      W p l e rm s m av.toArray below meth c s.heap [] 0 0 Q (F0 m 0 ls [])) : CI l y wy rm D cy av ws sz res w1 mc ms := by
  have h9 : vx_Met l y wy rm (PU D cy av ws sz) (RsI D ws sz res w1) (fun _ _ _ => False) mc ms (va_A ws sz) := by
    refine vx_ofWH (cc := cc) (maxL := maxL) (ret := some .int) (hh := hh) hy hw ?_
    intro p e s m args below meth c s₁ B hml hv
    obtain ⟨rfl, hsz, hP, hK, hD0, hE⟩ := hv
    have hx := B.exec
    have hb := B.bytes
    have hr := B.returns
    have hts := atoms_spec (ws := wy) B.pre
    have htab : c.exceptionTable.toList = tableOf hh := vx_table (x := y) B (hts (Cond.codeWith y cc maxL (some .int) hh) (by rw [hw]; exact List.mem_cons_self))
    have hown : s.vm.findClass y.cls = some m.cls := findClass_of_methodNamed B.named
    have hlocks := B.notSynchronized
    have hD := hD0.self (sz := sz)
    have hl := lv_entry av (n := maxL) hlen
    rw [lg_entry_eq]
    refine body p e s m below meth c (va_A ws sz) _ _ hx hb hts hown hml hlocks htab hsz hP hK hD hE (fun q h => Or.inr (by rw [← hsz]; exact h)) hl ?_
    intro r H locs pc ls hrr hP1 hD1 hS1 hdg
    subst hrr
    exact vx_ret (W.zret hx hb hr rfl (fun t ht hW => ⟨⟨r, (), rfl, rfl, by rw [ht]; exact hP1, hD1⟩, hS1.F ht⟩) hS1.2.2 hdg hlocks)
  have h8 : MetFree l y (headSpec wy rm) (PU D cy av ws sz) (fun _ _ _ _ _ => True) (fun a st o t => RsI D ws sz res w1 a st o t ∧ ∃ L, FrameEnd st o t L mc ms ∧ ∀ q ∈ L, (va_A ws sz) q.base) := by
    refine MetFree.mono h9 (fun _ _ h => h) (fun _ _ _ _ _ _ => trivial) (fun a s o s' _ hq => ?_)
    rcases hq with hq | ⟨q, _, E, ce, L, hX, _⟩
    · exact hq
    · exact hX.elim
  exact h8
end STH
theorem kcD (d : Int32) : o_X5_checkDesk d = 0 ∨ o_X5_checkDesk d = -9999001 := by
  unfold o_X5_checkDesk
  split
  · exact Or.inr rfl
  · exact Or.inl rfl
theorem kcP (d : Int32) : o_X5_checkPlace d = 0 ∨ o_X5_checkPlace d = -9999001 := by
  unfold o_X5_checkPlace
  split
  · exact Or.inr rfl
  · exact Or.inl rfl
theorem kcS (d : Int32) : o_X5_checkSlot d = 0 ∨ o_X5_checkSlot d = -9999001 := by
  unfold o_X5_checkSlot
  repeat' split
  all_goals first
    | exact Or.inr rfl
    | exact Or.inl rfl
theorem kcN (V : BV) (d : Int32) : o_X5_checkNote V d = 0 ∨ o_X5_checkNote V d = -9999001 := by
  unfold o_X5_checkNote
  split
  · exact Or.inr rfl
  · exact Or.inl rfl

theorem k_L_tryAppend (V : BV) (ch : Int32) : (o_X5_append V ch).1 = 0 ∨ (o_X5_append V ch).1 = -9999002 ∨ (o_X5_append V ch).1 = -9999003 := by
  unfold o_X5_append
  repeat' split
  all_goals first
    | exact Or.inl rfl
    | exact Or.inr (Or.inl rfl)
    | exact Or.inr (Or.inr rfl)
def r_L_tryAppend (V : BV) (ch : Int32) : Int32 := if (o_X5_append V ch).1 = 0 then (o_X5_append V ch).2 else (o_X5_append V ch).1
abbrev rL_tryAppend : Room := { frames := 7, cells := 1, slots := 6, locals := 111 }
set_option maxHeartbeats 4000000 in
set_option maxRecDepth 100000 in
theorem c_L_tryAppend (l : Launch) (hlt : l.stackTraces = false) (D : va_G) (cy : Nat → ClassId) (ad : AD) (V : BV) (ch : Int32) (sz : Nat) (hlen : ∃ n, n ≤ 80 ∧ V.1 3 0 = nI n) : CI l yL_tryAppend wsL_tryAppend rL_tryAppend D cy [.ref (ad 0 0 0), .int ch] (wB cy ad V) sz (r_L_tryAppend V ch) (wB cy ad (w_X5_append V ch)) 1 6 := by
  refine st_h (cc := cL_tryAppend) (maxL := 3) (by decide) rfl (Nat.le_of_ble_eq_true rfl) ?_
  intro pp e s m below meth c A Q ls hx hb hts hown hml hlocks htab hsz hP hK hD hE hA hl hret
  subst hsz
  have hown : s.vm.findClass RL = some m.cls := hown
  have hl : lv_has ls 3 [(0, .ref (ad 0 0 0)), (1, .int ch)] := hl
  obtain ⟨H, hH⟩ : ∃ H, H = s.heap := ⟨_, rfl⟩
  rw [← hH] at hP ⊢
  have hS : va_S A s.heap H [] := by rw [hH]; exact va_S.rf
  obtain ⟨locs, hlo⟩ : ∃ locs : List Loc, locs = [] := ⟨_, rfl⟩
  rw [← hlo] at hS ⊢
  refine lv_aload_n hx hb dL_tryAppend_0 rfl (lv_at hl 0 rfl) ?_
  refine lv_iload_n hx hb dL_tryAppend_1 rfl (lv_at hl 1 rfl) ?_
  refine clx_i (vx_runV (As := [.int ch]) (rest := []) ⟨hx, hb, hml, hown, hts⟩ (c_X5_append l hlt D cy ad V ch H.size hlen) (cwV 1 hts gL_tryAppend_X5_append rfl rfl rfl (by decide +kernel) ⟨Nat.le_of_ble_eq_true rfl, Nat.le_of_ble_eq_true rfl⟩) ⟨blU, va_recv hK hP (ci := 4) (q0 := 0) rfl rfl, preU hP hD (pmI _) hK hE hS hA⟩ rfl rfl hl.1 rfl (lv_room (Nat.le_of_ble_eq_true rfl)) dL_tryAppend_2 ⟨Nat.le_of_ble_eq_true rfl, Nat.le_of_ble_eq_true rfl⟩) hP hD (pmI _) hS hA (fun c9 q9 ce H locs hq hv hcl hP hD hS => ?_) (fun c9 H locs hP hD hS => ?_)
  · have hP : va_P D vwCl (wB cy ad (w_X5_append V ch)) H := vP_perm hP (pmI _).symm
    have hD : va_D A (wB cy ad (w_X5_append V ch)) := vD_perm hD (pmI _).symm
    rcases k_L_tryAppend V ch with hc | hc | hc
    · exact absurd hc c9
    · rw [hc, exn_2] at hcl
      refine vx_catch (E := "java/lang/IllegalArgumentException") (name := "java/lang/IllegalArgumentException") hown [] ⟨0, 5, 6, 13⟩ [⟨0, 5, 10, 31⟩] (htab.trans rfl) (fun z hz => absurd hz List.not_mem_nil) (by decide) (by decide) (hts _ (List.mem_of_getElem? (i := 1) rfl)) (va_Nw.use rfl hE.2.2.2.2.2.2.2.2.2.2.2.2.2.2.2.2.2.2.2.1) hq hv hcl ?_
      refine lv_astore_n (lv' := [(2, .ref q9), (0, .ref (ad 0 0 0)), (1, .int ch)]) hx hb dL_tryAppend_6 rfl hl (by decide) rfl (fun ls hl => ?_)
      refine lv_ldc (v := (-9999002)) hx hb hown (hts _ (List.mem_of_getElem? (i := 3) rfl)) dL_tryAppend_7 ?_
      exact hret _ H locs _ ls (by unfold r_L_tryAppend; rw [if_neg c9]; exact hc.symm) hP hD hS dL_tryAppend_9
    · rw [hc, exn_3] at hcl
      refine vx_catch (E := "java/lang/IllegalStateException") (name := "java/lang/IllegalStateException") hown [⟨0, 5, 6, 13⟩] ⟨0, 5, 10, 31⟩ [] (htab.trans rfl) (fun z hz => by rw [List.mem_singleton.mp hz]; exact Or.inr ⟨by decide, "java/lang/IllegalArgumentException", (hts _ (List.mem_of_getElem? (i := 1) rfl)), hE.2.2.2.2.2.2.1.2.2⟩) (by decide) (by decide) (hts _ (List.mem_of_getElem? (i := 2) rfl)) (va_Nw.use rfl hE.2.2.2.2.2.2.2.2.2.2.2.2.2.2.2.2.2.2.2.2) hq hv hcl ?_
      refine lv_astore_n (lv' := [(2, .ref q9), (0, .ref (ad 0 0 0)), (1, .int ch)]) hx hb dL_tryAppend_10 rfl hl (by decide) rfl (fun ls hl => ?_)
      refine lv_ldc (v := (-9999003)) hx hb hown (hts _ (List.mem_of_getElem? (i := 4) rfl)) dL_tryAppend_11 ?_
      exact hret _ H locs _ ls (by unfold r_L_tryAppend; rw [if_neg c9]; exact hc.symm) hP hD hS dL_tryAppend_13
  · have hP : va_P D vwCl (wB cy ad (w_X5_append V ch)) H := vP_perm hP (pmI _).symm
    have hD : va_D A (wB cy ad (w_X5_append V ch)) := vD_perm hD (pmI _).symm
    exact hret _ H locs _ ls (by unfold r_L_tryAppend; rw [if_pos c9]) hP hD hS dL_tryAppend_5

theorem k_L_tryAbout (V : BV) (what : Int32) : (o_X5_about V what).1 = 0 ∨ (o_X5_about V what).1 = -9999002 := by
  unfold o_X5_about
  repeat' split
  all_goals first
    | exact Or.inl rfl
    | exact Or.inr rfl
def r_L_tryAbout (V : BV) (what : Int32) : Int32 := if (o_X5_about V what).1 = 0 then (o_X5_about V what).2 else (o_X5_about V what).1
abbrev rL_tryAbout : Room := { frames := 7, cells := 1, slots := 6, locals := 111 }
set_option maxHeartbeats 4000000 in
set_option maxRecDepth 100000 in
theorem c_L_tryAbout (l : Launch) (hlt : l.stackTraces = false) (D : va_G) (cy : Nat → ClassId) (ad : AD) (V : BV) (what : Int32) (sz : Nat)  : CI l yL_tryAbout wsL_tryAbout rL_tryAbout D cy [.ref (ad 0 0 0), .int what] (wB cy ad V) sz (r_L_tryAbout V what) (wB cy ad V) 1 6 := by
  refine st_h (cc := cL_tryAbout) (maxL := 3) (by decide) rfl (Nat.le_of_ble_eq_true rfl) ?_
  intro pp e s m below meth c A Q ls hx hb hts hown hml hlocks htab hsz hP hK hD hE hA hl hret
  subst hsz
  have hown : s.vm.findClass RL = some m.cls := hown
  have hl : lv_has ls 3 [(0, .ref (ad 0 0 0)), (1, .int what)] := hl
  obtain ⟨H, hH⟩ : ∃ H, H = s.heap := ⟨_, rfl⟩
  rw [← hH] at hP ⊢
  have hS : va_S A s.heap H [] := by rw [hH]; exact va_S.rf
  obtain ⟨locs, hlo⟩ : ∃ locs : List Loc, locs = [] := ⟨_, rfl⟩
  rw [← hlo] at hS ⊢
  refine lv_aload_n hx hb dL_tryAbout_0 rfl (lv_at hl 0 rfl) ?_
  refine lv_iload_n hx hb dL_tryAbout_1 rfl (lv_at hl 1 rfl) ?_
  refine clx_i (vx_runV (As := [.int what]) (rest := []) ⟨hx, hb, hml, hown, hts⟩ (c_X5_about l hlt D cy ad V what H.size ) (cwV 1 hts gL_tryAbout_X5_about rfl rfl rfl (by decide +kernel) ⟨Nat.le_of_ble_eq_true rfl, Nat.le_of_ble_eq_true rfl⟩) ⟨blU, va_recv hK hP (ci := 4) (q0 := 0) rfl rfl, preU hP hD (pmI _) hK hE hS hA⟩ rfl rfl hl.1 rfl (lv_room (Nat.le_of_ble_eq_true rfl)) dL_tryAbout_2 ⟨Nat.le_of_ble_eq_true rfl, Nat.le_of_ble_eq_true rfl⟩) hP hD (pmI _) hS hA (fun c9 q9 ce H locs hq hv hcl hP hD hS => ?_) (fun c9 H locs hP hD hS => ?_)
  · have hP : va_P D vwCl (wB cy ad V) H := vP_perm hP (pmI _).symm
    have hD : va_D A (wB cy ad V) := vD_perm hD (pmI _).symm
    rcases k_L_tryAbout V what with hc | hc
    · exact absurd hc c9
    · rw [hc, exn_2] at hcl
      refine vx_catch (E := "java/lang/IllegalArgumentException") (name := "java/lang/IllegalArgumentException") hown [] ⟨0, 5, 6, 13⟩ [] (htab.trans rfl) (fun z hz => absurd hz List.not_mem_nil) (by decide) (by decide) (hts _ (List.mem_of_getElem? (i := 1) rfl)) (va_Nw.use rfl hE.2.2.2.2.2.2.2.2.2.2.2.2.2.2.2.2.2.2.2.1) hq hv hcl ?_
      refine lv_astore_n (lv' := [(2, .ref q9), (0, .ref (ad 0 0 0)), (1, .int what)]) hx hb dL_tryAbout_6 rfl hl (by decide) rfl (fun ls hl => ?_)
      refine lv_ldc (v := (-9999002)) hx hb hown (hts _ (List.mem_of_getElem? (i := 2) rfl)) dL_tryAbout_7 ?_
      exact hret _ H locs _ ls (by unfold r_L_tryAbout; rw [if_neg c9]; exact hc.symm) hP hD hS dL_tryAbout_9
  · have hP : va_P D vwCl (wB cy ad V) H := vP_perm hP (pmI _).symm
    have hD : va_D A (wB cy ad V) := vD_perm hD (pmI _).symm
    exact hret _ H locs _ ls (by unfold r_L_tryAbout; rw [if_pos c9]) hP hD hS dL_tryAbout_5

theorem k_L_tryDesk (V : BV) (d : Int32) (what : Int32) : (o_X5_desk V d what).1 = 0 ∨ (o_X5_desk V d what).1 = -9999001 ∨ (o_X5_desk V d what).1 = -9999002 := by
  unfold o_X5_desk
  repeat' split
  all_goals first
    | exact Or.inl rfl
    | exact Or.inr (Or.inl rfl)
    | exact Or.inr (Or.inr rfl)
    | exact (kcD _).imp_right Or.inl
    | exact (kcP _).imp_right Or.inl
    | exact (kcS _).imp_right Or.inl
    | exact (kcN _ _).imp_right Or.inl
def r_L_tryDesk (V : BV) (d : Int32) (what : Int32) : Int32 := if (o_X5_desk V d what).1 = 0 then (o_X5_desk V d what).2 else (o_X5_desk V d what).1
abbrev rL_tryDesk : Room := { frames := 8, cells := 2, slots := 12, locals := 133 }
set_option maxHeartbeats 4000000 in
set_option maxRecDepth 100000 in
theorem c_L_tryDesk (l : Launch) (hlt : l.stackTraces = false) (D : va_G) (cy : Nat → ClassId) (ad : AD) (V : BV) (d : Int32) (what : Int32) (sz : Nat)  : CI l yL_tryDesk wsL_tryDesk rL_tryDesk D cy [.ref (ad 0 0 0), .int d, .int what] (wB cy ad V) sz (r_L_tryDesk V d what) (wB cy ad V) 2 12 := by
  refine st_h (cc := cL_tryDesk) (maxL := 4) (by decide) rfl (Nat.le_of_ble_eq_true rfl) ?_
  intro pp e s m below meth c A Q ls hx hb hts hown hml hlocks htab hsz hP hK hD hE hA hl hret
  subst hsz
  have hown : s.vm.findClass RL = some m.cls := hown
  have hl : lv_has ls 4 [(0, .ref (ad 0 0 0)), (1, .int d), (2, .int what)] := hl
  obtain ⟨H, hH⟩ : ∃ H, H = s.heap := ⟨_, rfl⟩
  rw [← hH] at hP ⊢
  have hS : va_S A s.heap H [] := by rw [hH]; exact va_S.rf
  obtain ⟨locs, hlo⟩ : ∃ locs : List Loc, locs = [] := ⟨_, rfl⟩
  rw [← hlo] at hS ⊢
  refine lv_aload_n hx hb dL_tryDesk_0 rfl (lv_at hl 0 rfl) ?_
  refine lv_iload_n hx hb dL_tryDesk_1 rfl (lv_at hl 1 rfl) ?_
  refine lv_iload_n hx hb dL_tryDesk_2 rfl (lv_at hl 2 rfl) ?_
  refine clx_i (vx_runV (As := [.int d, .int what]) (rest := []) ⟨hx, hb, hml, hown, hts⟩ (c_X5_desk l hlt D cy ad V d what H.size ) (cwV 2 hts gL_tryDesk_X5_desk rfl rfl rfl (by decide +kernel) ⟨Nat.le_of_ble_eq_true rfl, Nat.le_of_ble_eq_true rfl⟩) ⟨blU, va_recv hK hP (ci := 4) (q0 := 0) rfl rfl, preU hP hD (pmI _) hK hE hS hA⟩ rfl rfl hl.1 rfl (lv_room (Nat.le_of_ble_eq_true rfl)) dL_tryDesk_3 ⟨Nat.le_of_ble_eq_true rfl, Nat.le_of_ble_eq_true rfl⟩) hP hD (pmI _) hS hA (fun c9 q9 ce H locs hq hv hcl hP hD hS => ?_) (fun c9 H locs hP hD hS => ?_)
  · have hP : va_P D vwCl (wB cy ad V) H := vP_perm hP (pmI _).symm
    have hD : va_D A (wB cy ad V) := vD_perm hD (pmI _).symm
    rcases k_L_tryDesk V d what with hc | hc | hc
    · exact absurd hc c9
    · rw [hc, exn_1] at hcl
      refine vx_catch (E := "java/lang/IndexOutOfBoundsException") (name := "java/lang/IndexOutOfBoundsException") hown [] ⟨0, 6, 7, 24⟩ [⟨0, 6, 11, 13⟩] (htab.trans rfl) (fun z hz => absurd hz List.not_mem_nil) (by decide) (by decide) (hts _ (List.mem_of_getElem? (i := 1) rfl)) (va_Nw.use rfl hE.2.2.2.2.2.2.2.2.2.2.2.2.2.2.2.2.2.2.1) hq hv hcl ?_
      refine lv_astore_n (lv' := [(3, .ref q9), (0, .ref (ad 0 0 0)), (1, .int d), (2, .int what)]) hx hb dL_tryDesk_7 rfl hl (by decide) rfl (fun ls hl => ?_)
      refine lv_ldc (v := (-9999001)) hx hb hown (hts _ (List.mem_of_getElem? (i := 3) rfl)) dL_tryDesk_8 ?_
      exact hret _ H locs _ ls (by unfold r_L_tryDesk; rw [if_neg c9]; exact hc.symm) hP hD hS dL_tryDesk_10
    · rw [hc, exn_2] at hcl
      refine vx_catch (E := "java/lang/IllegalArgumentException") (name := "java/lang/IllegalArgumentException") hown [⟨0, 6, 7, 24⟩] ⟨0, 6, 11, 13⟩ [] (htab.trans rfl) (fun z hz => by rw [List.mem_singleton.mp hz]; exact Or.inr ⟨by decide, "java/lang/IndexOutOfBoundsException", (hts _ (List.mem_of_getElem? (i := 1) rfl)), hE.2.2.2.2.2.2.1.1⟩) (by decide) (by decide) (hts _ (List.mem_of_getElem? (i := 2) rfl)) (va_Nw.use rfl hE.2.2.2.2.2.2.2.2.2.2.2.2.2.2.2.2.2.2.2.1) hq hv hcl ?_
      refine lv_astore_n (lv' := [(3, .ref q9), (0, .ref (ad 0 0 0)), (1, .int d), (2, .int what)]) hx hb dL_tryDesk_11 rfl hl (by decide) rfl (fun ls hl => ?_)
      refine lv_ldc (v := (-9999002)) hx hb hown (hts _ (List.mem_of_getElem? (i := 4) rfl)) dL_tryDesk_12 ?_
      exact hret _ H locs _ ls (by unfold r_L_tryDesk; rw [if_neg c9]; exact hc.symm) hP hD hS dL_tryDesk_14
  · have hP : va_P D vwCl (wB cy ad V) H := vP_perm hP (pmI _).symm
    have hD : va_D A (wB cy ad V) := vD_perm hD (pmI _).symm
    exact hret _ H locs _ ls (by unfold r_L_tryDesk; rw [if_pos c9]) hP hD hS dL_tryDesk_6

theorem k_L_tryNote (V : BV) (d : Int32) (i : Int32) (what : Int32) : (o_X5_note V d i what).1 = 0 ∨ (o_X5_note V d i what).1 = -9999001 ∨ (o_X5_note V d i what).1 = -9999002 := by
  unfold o_X5_note
  repeat' split
  all_goals first
    | exact Or.inl rfl
    | exact Or.inr (Or.inl rfl)
    | exact Or.inr (Or.inr rfl)
    | exact (kcD _).imp_right Or.inl
    | exact (kcP _).imp_right Or.inl
    | exact (kcS _).imp_right Or.inl
    | exact (kcN _ _).imp_right Or.inl
def r_L_tryNote (V : BV) (d : Int32) (i : Int32) (what : Int32) : Int32 := if (o_X5_note V d i what).1 = 0 then (o_X5_note V d i what).2 else (o_X5_note V d i what).1
abbrev rL_tryNote : Room := { frames := 8, cells := 3, slots := 18, locals := 135 }
set_option maxHeartbeats 4000000 in
set_option maxRecDepth 100000 in
theorem c_L_tryNote (l : Launch) (hlt : l.stackTraces = false) (D : va_G) (cy : Nat → ClassId) (ad : AD) (V : BV) (d : Int32) (i : Int32) (what : Int32) (sz : Nat) (hsz2 : szok (V.2.1.1 0 0)) : CI l yL_tryNote wsL_tryNote rL_tryNote D cy [.ref (ad 0 0 0), .int d, .int i, .int what] (wB cy ad V) sz (r_L_tryNote V d i what) (wB cy ad V) 3 18 := by
  refine st_h (cc := cL_tryNote) (maxL := 5) (by decide) rfl (Nat.le_of_ble_eq_true rfl) ?_
  intro pp e s m below meth c A Q ls hx hb hts hown hml hlocks htab hsz hP hK hD hE hA hl hret
  subst hsz
  have hown : s.vm.findClass RL = some m.cls := hown
  have hl : lv_has ls 5 [(0, .ref (ad 0 0 0)), (1, .int d), (2, .int i), (3, .int what)] := hl
  obtain ⟨H, hH⟩ : ∃ H, H = s.heap := ⟨_, rfl⟩
  rw [← hH] at hP ⊢
  have hS : va_S A s.heap H [] := by rw [hH]; exact va_S.rf
  obtain ⟨locs, hlo⟩ : ∃ locs : List Loc, locs = [] := ⟨_, rfl⟩
  rw [← hlo] at hS ⊢
  refine lv_aload_n hx hb dL_tryNote_0 rfl (lv_at hl 0 rfl) ?_
  refine lv_iload_n hx hb dL_tryNote_1 rfl (lv_at hl 1 rfl) ?_
  refine lv_iload_n hx hb dL_tryNote_2 rfl (lv_at hl 2 rfl) ?_
  refine lv_iload_n hx hb dL_tryNote_3 rfl (lv_at hl 3 rfl) ?_
  refine clx_i (vx_runV (As := [.int d, .int i, .int what]) (rest := []) ⟨hx, hb, hml, hown, hts⟩ (c_X5_note l hlt D cy ad V d i what H.size hsz2) (cwV 3 hts gL_tryNote_X5_note rfl rfl rfl (by decide +kernel) ⟨Nat.le_of_ble_eq_true rfl, Nat.le_of_ble_eq_true rfl⟩) ⟨blU, va_recv hK hP (ci := 4) (q0 := 0) rfl rfl, preU hP hD (pmI _) hK hE hS hA⟩ rfl rfl hl.1 rfl (lv_room (Nat.le_of_ble_eq_true rfl)) dL_tryNote_4 ⟨Nat.le_of_ble_eq_true rfl, Nat.le_of_ble_eq_true rfl⟩) hP hD (pmI _) hS hA (fun c9 q9 ce H locs hq hv hcl hP hD hS => ?_) (fun c9 H locs hP hD hS => ?_)
  · have hP : va_P D vwCl (wB cy ad V) H := vP_perm hP (pmI _).symm
    have hD : va_D A (wB cy ad V) := vD_perm hD (pmI _).symm
    rcases k_L_tryNote V d i what with hc | hc | hc
    · exact absurd hc c9
    · rw [hc, exn_1] at hcl
      refine vx_catch (E := "java/lang/IndexOutOfBoundsException") (name := "java/lang/IndexOutOfBoundsException") hown [] ⟨0, 7, 8, 24⟩ [⟨0, 7, 13, 13⟩] (htab.trans rfl) (fun z hz => absurd hz List.not_mem_nil) (by decide) (by decide) (hts _ (List.mem_of_getElem? (i := 1) rfl)) (va_Nw.use rfl hE.2.2.2.2.2.2.2.2.2.2.2.2.2.2.2.2.2.2.1) hq hv hcl ?_
      refine lv_astore (lv' := [(4, .ref q9), (0, .ref (ad 0 0 0)), (1, .int d), (2, .int i), (3, .int what)]) hx hb dL_tryNote_8 hl (by decide) rfl (fun ls hl => ?_)
      refine lv_ldc (v := (-9999001)) hx hb hown (hts _ (List.mem_of_getElem? (i := 3) rfl)) dL_tryNote_10 ?_
      exact hret _ H locs _ ls (by unfold r_L_tryNote; rw [if_neg c9]; exact hc.symm) hP hD hS dL_tryNote_12
    · rw [hc, exn_2] at hcl
      refine vx_catch (E := "java/lang/IllegalArgumentException") (name := "java/lang/IllegalArgumentException") hown [⟨0, 7, 8, 24⟩] ⟨0, 7, 13, 13⟩ [] (htab.trans rfl) (fun z hz => by rw [List.mem_singleton.mp hz]; exact Or.inr ⟨by decide, "java/lang/IndexOutOfBoundsException", (hts _ (List.mem_of_getElem? (i := 1) rfl)), hE.2.2.2.2.2.2.1.1⟩) (by decide) (by decide) (hts _ (List.mem_of_getElem? (i := 2) rfl)) (va_Nw.use rfl hE.2.2.2.2.2.2.2.2.2.2.2.2.2.2.2.2.2.2.2.1) hq hv hcl ?_
      refine lv_astore (lv' := [(4, .ref q9), (0, .ref (ad 0 0 0)), (1, .int d), (2, .int i), (3, .int what)]) hx hb dL_tryNote_13 hl (by decide) rfl (fun ls hl => ?_)
      refine lv_ldc (v := (-9999002)) hx hb hown (hts _ (List.mem_of_getElem? (i := 4) rfl)) dL_tryNote_15 ?_
      exact hret _ H locs _ ls (by unfold r_L_tryNote; rw [if_neg c9]; exact hc.symm) hP hD hS dL_tryNote_17
  · have hP : va_P D vwCl (wB cy ad V) H := vP_perm hP (pmI _).symm
    have hD : va_D A (wB cy ad V) := vD_perm hD (pmI _).symm
    exact hret _ H locs _ ls (by unfold r_L_tryNote; rw [if_pos c9]) hP hD hS dL_tryNote_7

theorem k_L_tryPlace (V : BV) (pl : Int32) (what : Int32) : (o_X5_place V pl what).1 = 0 ∨ (o_X5_place V pl what).1 = -9999001 ∨ (o_X5_place V pl what).1 = -9999002 := by
  unfold o_X5_place
  repeat' split
  all_goals first
    | exact Or.inl rfl
    | exact Or.inr (Or.inl rfl)
    | exact Or.inr (Or.inr rfl)
    | exact (kcD _).imp_right Or.inl
    | exact (kcP _).imp_right Or.inl
    | exact (kcS _).imp_right Or.inl
    | exact (kcN _ _).imp_right Or.inl
def r_L_tryPlace (V : BV) (pl : Int32) (what : Int32) : Int32 := if (o_X5_place V pl what).1 = 0 then (o_X5_place V pl what).2 else (o_X5_place V pl what).1
abbrev rL_tryPlace : Room := { frames := 8, cells := 2, slots := 12, locals := 132 }
set_option maxHeartbeats 4000000 in
set_option maxRecDepth 100000 in
theorem c_L_tryPlace (l : Launch) (hlt : l.stackTraces = false) (D : va_G) (cy : Nat → ClassId) (ad : AD) (V : BV) (pl : Int32) (what : Int32) (sz : Nat) (hsz2 : szok (V.2.1.1 0 0)) : CI l yL_tryPlace wsL_tryPlace rL_tryPlace D cy [.ref (ad 0 0 0), .int pl, .int what] (wB cy ad V) sz (r_L_tryPlace V pl what) (wB cy ad V) 2 12 := by
  refine st_h (cc := cL_tryPlace) (maxL := 4) (by decide) rfl (Nat.le_of_ble_eq_true rfl) ?_
  intro pp e s m below meth c A Q ls hx hb hts hown hml hlocks htab hsz hP hK hD hE hA hl hret
  subst hsz
  have hown : s.vm.findClass RL = some m.cls := hown
  have hl : lv_has ls 4 [(0, .ref (ad 0 0 0)), (1, .int pl), (2, .int what)] := hl
  obtain ⟨H, hH⟩ : ∃ H, H = s.heap := ⟨_, rfl⟩
  rw [← hH] at hP ⊢
  have hS : va_S A s.heap H [] := by rw [hH]; exact va_S.rf
  obtain ⟨locs, hlo⟩ : ∃ locs : List Loc, locs = [] := ⟨_, rfl⟩
  rw [← hlo] at hS ⊢
  refine lv_aload_n hx hb dL_tryPlace_0 rfl (lv_at hl 0 rfl) ?_
  refine lv_iload_n hx hb dL_tryPlace_1 rfl (lv_at hl 1 rfl) ?_
  refine lv_iload_n hx hb dL_tryPlace_2 rfl (lv_at hl 2 rfl) ?_
  refine clx_i (vx_runV (As := [.int pl, .int what]) (rest := []) ⟨hx, hb, hml, hown, hts⟩ (c_X5_place l hlt D cy ad V pl what H.size hsz2) (cwV 2 hts gL_tryPlace_X5_place rfl rfl rfl (by decide +kernel) ⟨Nat.le_of_ble_eq_true rfl, Nat.le_of_ble_eq_true rfl⟩) ⟨blU, va_recv hK hP (ci := 4) (q0 := 0) rfl rfl, preU hP hD (pmI _) hK hE hS hA⟩ rfl rfl hl.1 rfl (lv_room (Nat.le_of_ble_eq_true rfl)) dL_tryPlace_3 ⟨Nat.le_of_ble_eq_true rfl, Nat.le_of_ble_eq_true rfl⟩) hP hD (pmI _) hS hA (fun c9 q9 ce H locs hq hv hcl hP hD hS => ?_) (fun c9 H locs hP hD hS => ?_)
  · have hP : va_P D vwCl (wB cy ad V) H := vP_perm hP (pmI _).symm
    have hD : va_D A (wB cy ad V) := vD_perm hD (pmI _).symm
    rcases k_L_tryPlace V pl what with hc | hc | hc
    · exact absurd hc c9
    · rw [hc, exn_1] at hcl
      refine vx_catch (E := "java/lang/IndexOutOfBoundsException") (name := "java/lang/IndexOutOfBoundsException") hown [] ⟨0, 6, 7, 24⟩ [⟨0, 6, 11, 13⟩] (htab.trans rfl) (fun z hz => absurd hz List.not_mem_nil) (by decide) (by decide) (hts _ (List.mem_of_getElem? (i := 1) rfl)) (va_Nw.use rfl hE.2.2.2.2.2.2.2.2.2.2.2.2.2.2.2.2.2.2.1) hq hv hcl ?_
      refine lv_astore_n (lv' := [(3, .ref q9), (0, .ref (ad 0 0 0)), (1, .int pl), (2, .int what)]) hx hb dL_tryPlace_7 rfl hl (by decide) rfl (fun ls hl => ?_)
      refine lv_ldc (v := (-9999001)) hx hb hown (hts _ (List.mem_of_getElem? (i := 3) rfl)) dL_tryPlace_8 ?_
      exact hret _ H locs _ ls (by unfold r_L_tryPlace; rw [if_neg c9]; exact hc.symm) hP hD hS dL_tryPlace_10
    · rw [hc, exn_2] at hcl
      refine vx_catch (E := "java/lang/IllegalArgumentException") (name := "java/lang/IllegalArgumentException") hown [⟨0, 6, 7, 24⟩] ⟨0, 6, 11, 13⟩ [] (htab.trans rfl) (fun z hz => by rw [List.mem_singleton.mp hz]; exact Or.inr ⟨by decide, "java/lang/IndexOutOfBoundsException", (hts _ (List.mem_of_getElem? (i := 1) rfl)), hE.2.2.2.2.2.2.1.1⟩) (by decide) (by decide) (hts _ (List.mem_of_getElem? (i := 2) rfl)) (va_Nw.use rfl hE.2.2.2.2.2.2.2.2.2.2.2.2.2.2.2.2.2.2.2.1) hq hv hcl ?_
      refine lv_astore_n (lv' := [(3, .ref q9), (0, .ref (ad 0 0 0)), (1, .int pl), (2, .int what)]) hx hb dL_tryPlace_11 rfl hl (by decide) rfl (fun ls hl => ?_)
      refine lv_ldc (v := (-9999002)) hx hb hown (hts _ (List.mem_of_getElem? (i := 4) rfl)) dL_tryPlace_12 ?_
      exact hret _ H locs _ ls (by unfold r_L_tryPlace; rw [if_neg c9]; exact hc.symm) hP hD hS dL_tryPlace_14
  · have hP : va_P D vwCl (wB cy ad V) H := vP_perm hP (pmI _).symm
    have hD : va_D A (wB cy ad V) := vD_perm hD (pmI _).symm
    exact hret _ H locs _ ls (by unfold r_L_tryPlace; rw [if_pos c9]) hP hD hS dL_tryPlace_6

theorem k_L_tryPath (V : BV) (d : Int32) (pl : Int32) : (o_X5_path V d pl).1 = 0 ∨ (o_X5_path V d pl).1 = -9999001 := by
  unfold o_X5_path
  repeat' split
  all_goals first
    | exact Or.inl rfl
    | exact Or.inr rfl
    | exact kcD _
    | exact kcP _
    | exact kcS _
    | exact kcN _ _
def r_L_tryPath (V : BV) (d : Int32) (pl : Int32) : Int32 := if (o_X5_path V d pl).1 = 0 then (o_X5_path V d pl).2 else (o_X5_path V d pl).1
abbrev rL_tryPath : Room := { frames := 8, cells := 2, slots := 12, locals := 132 }
set_option maxHeartbeats 4000000 in
set_option maxRecDepth 100000 in
theorem c_L_tryPath (l : Launch) (hlt : l.stackTraces = false) (D : va_G) (cy : Nat → ClassId) (ad : AD) (V : BV) (d : Int32) (pl : Int32) (sz : Nat)  : CI l yL_tryPath wsL_tryPath rL_tryPath D cy [.ref (ad 0 0 0), .int d, .int pl] (wB cy ad V) sz (r_L_tryPath V d pl) (wB cy ad V) 2 12 := by
  refine st_h (cc := cL_tryPath) (maxL := 4) (by decide) rfl (Nat.le_of_ble_eq_true rfl) ?_
  intro pp e s m below meth c A Q ls hx hb hts hown hml hlocks htab hsz hP hK hD hE hA hl hret
  subst hsz
  have hown : s.vm.findClass RL = some m.cls := hown
  have hl : lv_has ls 4 [(0, .ref (ad 0 0 0)), (1, .int d), (2, .int pl)] := hl
  obtain ⟨H, hH⟩ : ∃ H, H = s.heap := ⟨_, rfl⟩
  rw [← hH] at hP ⊢
  have hS : va_S A s.heap H [] := by rw [hH]; exact va_S.rf
  obtain ⟨locs, hlo⟩ : ∃ locs : List Loc, locs = [] := ⟨_, rfl⟩
  rw [← hlo] at hS ⊢
  refine lv_aload_n hx hb dL_tryPath_0 rfl (lv_at hl 0 rfl) ?_
  refine lv_iload_n hx hb dL_tryPath_1 rfl (lv_at hl 1 rfl) ?_
  refine lv_iload_n hx hb dL_tryPath_2 rfl (lv_at hl 2 rfl) ?_
  refine clx_i (vx_runV (As := [.int d, .int pl]) (rest := []) ⟨hx, hb, hml, hown, hts⟩ (c_X5_path l hlt D cy ad V d pl H.size ) (cwV 2 hts gL_tryPath_X5_path rfl rfl rfl (by decide +kernel) ⟨Nat.le_of_ble_eq_true rfl, Nat.le_of_ble_eq_true rfl⟩) ⟨blU, va_recv hK hP (ci := 4) (q0 := 0) rfl rfl, preU hP hD (pmI _) hK hE hS hA⟩ rfl rfl hl.1 rfl (lv_room (Nat.le_of_ble_eq_true rfl)) dL_tryPath_3 ⟨Nat.le_of_ble_eq_true rfl, Nat.le_of_ble_eq_true rfl⟩) hP hD (pmI _) hS hA (fun c9 q9 ce H locs hq hv hcl hP hD hS => ?_) (fun c9 H locs hP hD hS => ?_)
  · have hP : va_P D vwCl (wB cy ad V) H := vP_perm hP (pmI _).symm
    have hD : va_D A (wB cy ad V) := vD_perm hD (pmI _).symm
    rcases k_L_tryPath V d pl with hc | hc
    · exact absurd hc c9
    · rw [hc, exn_1] at hcl
      refine vx_catch (E := "java/lang/IndexOutOfBoundsException") (name := "java/lang/IndexOutOfBoundsException") hown [] ⟨0, 6, 7, 24⟩ [] (htab.trans rfl) (fun z hz => absurd hz List.not_mem_nil) (by decide) (by decide) (hts _ (List.mem_of_getElem? (i := 1) rfl)) (va_Nw.use rfl hE.2.2.2.2.2.2.2.2.2.2.2.2.2.2.2.2.2.2.1) hq hv hcl ?_
      refine lv_astore_n (lv' := [(3, .ref q9), (0, .ref (ad 0 0 0)), (1, .int d), (2, .int pl)]) hx hb dL_tryPath_7 rfl hl (by decide) rfl (fun ls hl => ?_)
      refine lv_ldc (v := (-9999001)) hx hb hown (hts _ (List.mem_of_getElem? (i := 2) rfl)) dL_tryPath_8 ?_
      exact hret _ H locs _ ls (by unfold r_L_tryPath; rw [if_neg c9]; exact hc.symm) hP hD hS dL_tryPath_10
  · have hP : va_P D vwCl (wB cy ad V) H := vP_perm hP (pmI _).symm
    have hD : va_D A (wB cy ad V) := vD_perm hD (pmI _).symm
    exact hret _ H locs _ ls (by unfold r_L_tryPath; rw [if_pos c9]) hP hD hS dL_tryPath_6

theorem k_L_tryNumber (V : BV) (d : Int32) (pl : Int32) : (o_X5_noteOf V d pl).1 = 0 ∨ (o_X5_noteOf V d pl).1 = -9999001 := by
  unfold o_X5_noteOf
  repeat' split
  all_goals first
    | exact Or.inl rfl
    | exact Or.inr rfl
    | exact kcD _
    | exact kcP _
    | exact kcS _
    | exact kcN _ _
def r_L_tryNumber (V : BV) (d : Int32) (pl : Int32) : Int32 := if (o_X5_noteOf V d pl).1 = 0 then (o_X5_noteOf V d pl).2 else (o_X5_noteOf V d pl).1
abbrev rL_tryNumber : Room := { frames := 8, cells := 2, slots := 12, locals := 132 }
set_option maxHeartbeats 4000000 in
set_option maxRecDepth 100000 in
theorem c_L_tryNumber (l : Launch) (hlt : l.stackTraces = false) (D : va_G) (cy : Nat → ClassId) (ad : AD) (V : BV) (d : Int32) (pl : Int32) (sz : Nat)  : CI l yL_tryNumber wsL_tryNumber rL_tryNumber D cy [.ref (ad 0 0 0), .int d, .int pl] (wB cy ad V) sz (r_L_tryNumber V d pl) (wB cy ad V) 2 12 := by
  refine st_h (cc := cL_tryNumber) (maxL := 4) (by decide) rfl (Nat.le_of_ble_eq_true rfl) ?_
  intro pp e s m below meth c A Q ls hx hb hts hown hml hlocks htab hsz hP hK hD hE hA hl hret
  subst hsz
  have hown : s.vm.findClass RL = some m.cls := hown
  have hl : lv_has ls 4 [(0, .ref (ad 0 0 0)), (1, .int d), (2, .int pl)] := hl
  obtain ⟨H, hH⟩ : ∃ H, H = s.heap := ⟨_, rfl⟩
  rw [← hH] at hP ⊢
  have hS : va_S A s.heap H [] := by rw [hH]; exact va_S.rf
  obtain ⟨locs, hlo⟩ : ∃ locs : List Loc, locs = [] := ⟨_, rfl⟩
  rw [← hlo] at hS ⊢
  refine lv_aload_n hx hb dL_tryNumber_0 rfl (lv_at hl 0 rfl) ?_
  refine lv_iload_n hx hb dL_tryNumber_1 rfl (lv_at hl 1 rfl) ?_
  refine lv_iload_n hx hb dL_tryNumber_2 rfl (lv_at hl 2 rfl) ?_
  refine clx_i (vx_runV (As := [.int d, .int pl]) (rest := []) ⟨hx, hb, hml, hown, hts⟩ (c_X5_noteOf l hlt D cy ad V d pl H.size ) (cwV 2 hts gL_tryNumber_X5_noteOf rfl rfl rfl (by decide +kernel) ⟨Nat.le_of_ble_eq_true rfl, Nat.le_of_ble_eq_true rfl⟩) ⟨blU, va_recv hK hP (ci := 4) (q0 := 0) rfl rfl, preU hP hD (pmI _) hK hE hS hA⟩ rfl rfl hl.1 rfl (lv_room (Nat.le_of_ble_eq_true rfl)) dL_tryNumber_3 ⟨Nat.le_of_ble_eq_true rfl, Nat.le_of_ble_eq_true rfl⟩) hP hD (pmI _) hS hA (fun c9 q9 ce H locs hq hv hcl hP hD hS => ?_) (fun c9 H locs hP hD hS => ?_)
  · have hP : va_P D vwCl (wB cy ad V) H := vP_perm hP (pmI _).symm
    have hD : va_D A (wB cy ad V) := vD_perm hD (pmI _).symm
    rcases k_L_tryNumber V d pl with hc | hc
    · exact absurd hc c9
    · rw [hc, exn_1] at hcl
      refine vx_catch (E := "java/lang/IndexOutOfBoundsException") (name := "java/lang/IndexOutOfBoundsException") hown [] ⟨0, 6, 7, 24⟩ [] (htab.trans rfl) (fun z hz => absurd hz List.not_mem_nil) (by decide) (by decide) (hts _ (List.mem_of_getElem? (i := 1) rfl)) (va_Nw.use rfl hE.2.2.2.2.2.2.2.2.2.2.2.2.2.2.2.2.2.2.1) hq hv hcl ?_
      refine lv_astore_n (lv' := [(3, .ref q9), (0, .ref (ad 0 0 0)), (1, .int d), (2, .int pl)]) hx hb dL_tryNumber_7 rfl hl (by decide) rfl (fun ls hl => ?_)
      refine lv_ldc (v := (-9999001)) hx hb hown (hts _ (List.mem_of_getElem? (i := 2) rfl)) dL_tryNumber_8 ?_
      exact hret _ H locs _ ls (by unfold r_L_tryNumber; rw [if_neg c9]; exact hc.symm) hP hD hS dL_tryNumber_10
  · have hP : va_P D vwCl (wB cy ad V) H := vP_perm hP (pmI _).symm
    have hD : va_D A (wB cy ad V) := vD_perm hD (pmI _).symm
    exact hret _ H locs _ ls (by unfold r_L_tryNumber; rw [if_pos c9]) hP hD hS dL_tryNumber_6

theorem k_L_tryShare (V : BV) (pl : Int32) : (o_X5_share V pl).1 = 0 ∨ (o_X5_share V pl).1 = -9999001 := by
  unfold o_X5_share
  repeat' split
  all_goals first
    | exact Or.inl rfl
    | exact Or.inr rfl
    | exact kcD _
    | exact kcP _
    | exact kcS _
    | exact kcN _ _
def r_L_tryShare (V : BV) (pl : Int32) : Int32 := if (o_X5_share V pl).1 = 0 then (o_X5_share V pl).2 else (o_X5_share V pl).1
abbrev rL_tryShare : Room := { frames := 8, cells := 1, slots := 6, locals := 132 }
set_option maxHeartbeats 4000000 in
set_option maxRecDepth 100000 in
theorem c_L_tryShare (l : Launch) (hlt : l.stackTraces = false) (D : va_G) (cy : Nat → ClassId) (ad : AD) (V : BV) (pl : Int32) (sz : Nat)  : CI l yL_tryShare wsL_tryShare rL_tryShare D cy [.ref (ad 0 0 0), .int pl] (wB cy ad V) sz (r_L_tryShare V pl) (wB cy ad V) 1 6 := by
  refine st_h (cc := cL_tryShare) (maxL := 3) (by decide) rfl (Nat.le_of_ble_eq_true rfl) ?_
  intro pp e s m below meth c A Q ls hx hb hts hown hml hlocks htab hsz hP hK hD hE hA hl hret
  subst hsz
  have hown : s.vm.findClass RL = some m.cls := hown
  have hl : lv_has ls 3 [(0, .ref (ad 0 0 0)), (1, .int pl)] := hl
  obtain ⟨H, hH⟩ : ∃ H, H = s.heap := ⟨_, rfl⟩
  rw [← hH] at hP ⊢
  have hS : va_S A s.heap H [] := by rw [hH]; exact va_S.rf
  obtain ⟨locs, hlo⟩ : ∃ locs : List Loc, locs = [] := ⟨_, rfl⟩
  rw [← hlo] at hS ⊢
  refine lv_aload_n hx hb dL_tryShare_0 rfl (lv_at hl 0 rfl) ?_
  refine lv_iload_n hx hb dL_tryShare_1 rfl (lv_at hl 1 rfl) ?_
  refine clx_i (vx_runV (As := [.int pl]) (rest := []) ⟨hx, hb, hml, hown, hts⟩ (c_X5_share l hlt D cy ad V pl H.size ) (cwV 1 hts gL_tryShare_X5_share rfl rfl rfl (by decide +kernel) ⟨Nat.le_of_ble_eq_true rfl, Nat.le_of_ble_eq_true rfl⟩) ⟨blU, va_recv hK hP (ci := 4) (q0 := 0) rfl rfl, preU hP hD (pmI _) hK hE hS hA⟩ rfl rfl hl.1 rfl (lv_room (Nat.le_of_ble_eq_true rfl)) dL_tryShare_2 ⟨Nat.le_of_ble_eq_true rfl, Nat.le_of_ble_eq_true rfl⟩) hP hD (pmI _) hS hA (fun c9 q9 ce H locs hq hv hcl hP hD hS => ?_) (fun c9 H locs hP hD hS => ?_)
  · have hP : va_P D vwCl (wB cy ad V) H := vP_perm hP (pmI _).symm
    have hD : va_D A (wB cy ad V) := vD_perm hD (pmI _).symm
    rcases k_L_tryShare V pl with hc | hc
    · exact absurd hc c9
    · rw [hc, exn_1] at hcl
      refine vx_catch (E := "java/lang/IndexOutOfBoundsException") (name := "java/lang/IndexOutOfBoundsException") hown [] ⟨0, 5, 6, 24⟩ [] (htab.trans rfl) (fun z hz => absurd hz List.not_mem_nil) (by decide) (by decide) (hts _ (List.mem_of_getElem? (i := 1) rfl)) (va_Nw.use rfl hE.2.2.2.2.2.2.2.2.2.2.2.2.2.2.2.2.2.2.1) hq hv hcl ?_
      refine lv_astore_n (lv' := [(2, .ref q9), (0, .ref (ad 0 0 0)), (1, .int pl)]) hx hb dL_tryShare_6 rfl hl (by decide) rfl (fun ls hl => ?_)
      refine lv_ldc (v := (-9999001)) hx hb hown (hts _ (List.mem_of_getElem? (i := 2) rfl)) dL_tryShare_7 ?_
      exact hret _ H locs _ ls (by unfold r_L_tryShare; rw [if_neg c9]; exact hc.symm) hP hD hS dL_tryShare_9
  · have hP : va_P D vwCl (wB cy ad V) H := vP_perm hP (pmI _).symm
    have hD : va_D A (wB cy ad V) := vD_perm hD (pmI _).symm
    exact hret _ H locs _ ls (by unfold r_L_tryShare; rw [if_pos c9]) hP hD hS dL_tryShare_5

theorem k_L_tryTune (V : BV) (d : Int32) (what : Int32) (val2 : Int32) : (o_X5_setDesk V d what val2).1 = 0 ∨ (o_X5_setDesk V d what val2).1 = -9999001 ∨ (o_X5_setDesk V d what val2).1 = -9999002 := by
  unfold o_X5_setDesk
  repeat' split
  all_goals first
    | exact Or.inl rfl
    | exact Or.inr (Or.inl rfl)
    | exact Or.inr (Or.inr rfl)
    | exact (kcD _).imp_right Or.inl
    | exact (kcP _).imp_right Or.inl
    | exact (kcS _).imp_right Or.inl
    | exact (kcN _ _).imp_right Or.inl
def r_L_tryTune (V : BV) (d : Int32) (what : Int32) (val2 : Int32) : Int32 := if (o_X5_setDesk V d what val2).1 = 0 then (o_X5_setDesk V d what val2).2 else (o_X5_setDesk V d what val2).1
abbrev rL_tryTune : Room := { frames := 8, cells := 2, slots := 12, locals := 148 }
set_option maxHeartbeats 4000000 in
set_option maxRecDepth 100000 in
theorem c_L_tryTune (l : Launch) (hlt : l.stackTraces = false) (D : va_G) (cy : Nat → ClassId) (ad : AD) (V : BV) (d : Int32) (what : Int32) (val2 : Int32) (sz : Nat) (hho : hok V.2.2.2.2.2.1) : CI l yL_tryTune wsL_tryTune rL_tryTune D cy [.ref (ad 0 0 0), .int d, .int what, .int val2] (wB cy ad V) sz (r_L_tryTune V d what val2) (wB cy ad (w_X5_setDesk V d what val2)) 2 12 := by
  refine st_h (cc := cL_tryTune) (maxL := 5) (by decide) rfl (Nat.le_of_ble_eq_true rfl) ?_
  intro pp e s m below meth c A Q ls hx hb hts hown hml hlocks htab hsz hP hK hD hE hA hl hret
  subst hsz
  have hown : s.vm.findClass RL = some m.cls := hown
  have hl : lv_has ls 5 [(0, .ref (ad 0 0 0)), (1, .int d), (2, .int what), (3, .int val2)] := hl
  obtain ⟨H, hH⟩ : ∃ H, H = s.heap := ⟨_, rfl⟩
  rw [← hH] at hP ⊢
  have hS : va_S A s.heap H [] := by rw [hH]; exact va_S.rf
  obtain ⟨locs, hlo⟩ : ∃ locs : List Loc, locs = [] := ⟨_, rfl⟩
  rw [← hlo] at hS ⊢
  refine lv_aload_n hx hb dL_tryTune_0 rfl (lv_at hl 0 rfl) ?_
  refine lv_iload_n hx hb dL_tryTune_1 rfl (lv_at hl 1 rfl) ?_
  refine lv_iload_n hx hb dL_tryTune_2 rfl (lv_at hl 2 rfl) ?_
  refine lv_iload_n hx hb dL_tryTune_3 rfl (lv_at hl 3 rfl) ?_
  refine clx_i (vx_runV (As := [.int d, .int what, .int val2]) (rest := []) ⟨hx, hb, hml, hown, hts⟩ (c_X5_setDesk l hlt D cy ad V d what val2 H.size hho) (cwV 3 hts gL_tryTune_X5_setDesk rfl rfl rfl (by decide +kernel) ⟨Nat.le_of_ble_eq_true rfl, Nat.le_of_ble_eq_true rfl⟩) ⟨blU, va_recv hK hP (ci := 4) (q0 := 0) rfl rfl, preU hP hD (pmI _) hK hE hS hA⟩ rfl rfl hl.1 rfl (lv_room (Nat.le_of_ble_eq_true rfl)) dL_tryTune_4 ⟨Nat.le_of_ble_eq_true rfl, Nat.le_of_ble_eq_true rfl⟩) hP hD (pmI _) hS hA (fun c9 q9 ce H locs hq hv hcl hP hD hS => ?_) (fun c9 H locs hP hD hS => ?_)
  · have hP : va_P D vwCl (wB cy ad (w_X5_setDesk V d what val2)) H := vP_perm hP (pmI _).symm
    have hD : va_D A (wB cy ad (w_X5_setDesk V d what val2)) := vD_perm hD (pmI _).symm
    rcases k_L_tryTune V d what val2 with hc | hc | hc
    · exact absurd hc c9
    · rw [hc, exn_1] at hcl
      refine vx_catch (E := "java/lang/IndexOutOfBoundsException") (name := "java/lang/IndexOutOfBoundsException") hown [] ⟨0, 7, 8, 24⟩ [⟨0, 7, 13, 13⟩] (htab.trans rfl) (fun z hz => absurd hz List.not_mem_nil) (by decide) (by decide) (hts _ (List.mem_of_getElem? (i := 1) rfl)) (va_Nw.use rfl hE.2.2.2.2.2.2.2.2.2.2.2.2.2.2.2.2.2.2.1) hq hv hcl ?_
      refine lv_astore (lv' := [(4, .ref q9), (0, .ref (ad 0 0 0)), (1, .int d), (2, .int what), (3, .int val2)]) hx hb dL_tryTune_8 hl (by decide) rfl (fun ls hl => ?_)
      refine lv_ldc (v := (-9999001)) hx hb hown (hts _ (List.mem_of_getElem? (i := 3) rfl)) dL_tryTune_10 ?_
      exact hret _ H locs _ ls (by unfold r_L_tryTune; rw [if_neg c9]; exact hc.symm) hP hD hS dL_tryTune_12
    · rw [hc, exn_2] at hcl
      refine vx_catch (E := "java/lang/IllegalArgumentException") (name := "java/lang/IllegalArgumentException") hown [⟨0, 7, 8, 24⟩] ⟨0, 7, 13, 13⟩ [] (htab.trans rfl) (fun z hz => by rw [List.mem_singleton.mp hz]; exact Or.inr ⟨by decide, "java/lang/IndexOutOfBoundsException", (hts _ (List.mem_of_getElem? (i := 1) rfl)), hE.2.2.2.2.2.2.1.1⟩) (by decide) (by decide) (hts _ (List.mem_of_getElem? (i := 2) rfl)) (va_Nw.use rfl hE.2.2.2.2.2.2.2.2.2.2.2.2.2.2.2.2.2.2.2.1) hq hv hcl ?_
      refine lv_astore (lv' := [(4, .ref q9), (0, .ref (ad 0 0 0)), (1, .int d), (2, .int what), (3, .int val2)]) hx hb dL_tryTune_13 hl (by decide) rfl (fun ls hl => ?_)
      refine lv_ldc (v := (-9999002)) hx hb hown (hts _ (List.mem_of_getElem? (i := 4) rfl)) dL_tryTune_15 ?_
      exact hret _ H locs _ ls (by unfold r_L_tryTune; rw [if_neg c9]; exact hc.symm) hP hD hS dL_tryTune_17
  · have hP : va_P D vwCl (wB cy ad (w_X5_setDesk V d what val2)) H := vP_perm hP (pmI _).symm
    have hD : va_D A (wB cy ad (w_X5_setDesk V d what val2)) := vD_perm hD (pmI _).symm
    exact hret _ H locs _ ls (by unfold r_L_tryTune; rw [if_pos c9]) hP hD hS dL_tryTune_7

theorem k_L_trySet (V : BV) (what : Int32) (val2 : Int32) : (o_X5_set V what val2).1 = 0 ∨ (o_X5_set V what val2).1 = -9999002 := by
  unfold o_X5_set
  repeat' split
  all_goals first
    | exact Or.inl rfl
    | exact Or.inr rfl
def r_L_trySet (V : BV) (what : Int32) (val2 : Int32) : Int32 := if (o_X5_set V what val2).1 = 0 then (o_X5_set V what val2).2 else (o_X5_set V what val2).1
abbrev rL_trySet : Room := { frames := 7, cells := 1, slots := 6, locals := 147 }
set_option maxHeartbeats 4000000 in
set_option maxRecDepth 100000 in
theorem c_L_trySet (l : Launch) (hlt : l.stackTraces = false) (D : va_G) (cy : Nat → ClassId) (ad : AD) (V : BV) (what : Int32) (val2 : Int32) (sz : Nat) (hho : hok V.2.2.2.2.2.1) : CI l yL_trySet wsL_trySet rL_trySet D cy [.ref (ad 0 0 0), .int what, .int val2] (wB cy ad V) sz (r_L_trySet V what val2) (wB cy ad (w_X5_set V what val2)) 1 6 := by
  refine st_h (cc := cL_trySet) (maxL := 4) (by decide) rfl (Nat.le_of_ble_eq_true rfl) ?_
  intro pp e s m below meth c A Q ls hx hb hts hown hml hlocks htab hsz hP hK hD hE hA hl hret
  subst hsz
  have hown : s.vm.findClass RL = some m.cls := hown
  have hl : lv_has ls 4 [(0, .ref (ad 0 0 0)), (1, .int what), (2, .int val2)] := hl
  obtain ⟨H, hH⟩ : ∃ H, H = s.heap := ⟨_, rfl⟩
  rw [← hH] at hP ⊢
  have hS : va_S A s.heap H [] := by rw [hH]; exact va_S.rf
  obtain ⟨locs, hlo⟩ : ∃ locs : List Loc, locs = [] := ⟨_, rfl⟩
  rw [← hlo] at hS ⊢
  refine lv_aload_n hx hb dL_trySet_0 rfl (lv_at hl 0 rfl) ?_
  refine lv_iload_n hx hb dL_trySet_1 rfl (lv_at hl 1 rfl) ?_
  refine lv_iload_n hx hb dL_trySet_2 rfl (lv_at hl 2 rfl) ?_
  refine clx_i (vx_runV (As := [.int what, .int val2]) (rest := []) ⟨hx, hb, hml, hown, hts⟩ (c_X5_set l hlt D cy ad V what val2 H.size hho) (cwV 2 hts gL_trySet_X5_set rfl rfl rfl (by decide +kernel) ⟨Nat.le_of_ble_eq_true rfl, Nat.le_of_ble_eq_true rfl⟩) ⟨blU, va_recv hK hP (ci := 4) (q0 := 0) rfl rfl, preU hP hD (pmI _) hK hE hS hA⟩ rfl rfl hl.1 rfl (lv_room (Nat.le_of_ble_eq_true rfl)) dL_trySet_3 ⟨Nat.le_of_ble_eq_true rfl, Nat.le_of_ble_eq_true rfl⟩) hP hD (pmI _) hS hA (fun c9 q9 ce H locs hq hv hcl hP hD hS => ?_) (fun c9 H locs hP hD hS => ?_)
  · have hP : va_P D vwCl (wB cy ad (w_X5_set V what val2)) H := vP_perm hP (pmI _).symm
    have hD : va_D A (wB cy ad (w_X5_set V what val2)) := vD_perm hD (pmI _).symm
    rcases k_L_trySet V what val2 with hc | hc
    · exact absurd hc c9
    · rw [hc, exn_2] at hcl
      refine vx_catch (E := "java/lang/IllegalArgumentException") (name := "java/lang/IllegalArgumentException") hown [] ⟨0, 6, 7, 13⟩ [] (htab.trans rfl) (fun z hz => absurd hz List.not_mem_nil) (by decide) (by decide) (hts _ (List.mem_of_getElem? (i := 1) rfl)) (va_Nw.use rfl hE.2.2.2.2.2.2.2.2.2.2.2.2.2.2.2.2.2.2.2.1) hq hv hcl ?_
      refine lv_astore_n (lv' := [(3, .ref q9), (0, .ref (ad 0 0 0)), (1, .int what), (2, .int val2)]) hx hb dL_trySet_7 rfl hl (by decide) rfl (fun ls hl => ?_)
      refine lv_ldc (v := (-9999002)) hx hb hown (hts _ (List.mem_of_getElem? (i := 2) rfl)) dL_trySet_8 ?_
      exact hret _ H locs _ ls (by unfold r_L_trySet; rw [if_neg c9]; exact hc.symm) hP hD hS dL_trySet_10
  · have hP : va_P D vwCl (wB cy ad (w_X5_set V what val2)) H := vP_perm hP (pmI _).symm
    have hD : va_D A (wB cy ad (w_X5_set V what val2)) := vD_perm hD (pmI _).symm
    exact hret _ H locs _ ls (by unfold r_L_trySet; rw [if_pos c9]) hP hD hS dL_trySet_6

theorem k_L_tryGrow (V : BV) (d : Int32) (i : Int32) (val2 : Int32) : (o_X5_strengthen V d i val2).1 = 0 ∨ (o_X5_strengthen V d i val2).1 = -9999001 ∨ (o_X5_strengthen V d i val2).1 = -9999002 := by
  unfold o_X5_strengthen
  repeat' split
  all_goals first
    | exact Or.inl rfl
    | exact Or.inr (Or.inl rfl)
    | exact Or.inr (Or.inr rfl)
    | exact (kcD _).imp_right Or.inl
    | exact (kcP _).imp_right Or.inl
    | exact (kcS _).imp_right Or.inl
    | exact (kcN _ _).imp_right Or.inl
def r_L_tryGrow (V : BV) (d : Int32) (i : Int32) (val2 : Int32) : Int32 := if (o_X5_strengthen V d i val2).1 = 0 then (o_X5_strengthen V d i val2).2 else (o_X5_strengthen V d i val2).1
abbrev rL_tryGrow : Room := { frames := 8, cells := 3, slots := 18, locals := 148 }
set_option maxHeartbeats 4000000 in
set_option maxRecDepth 100000 in
theorem c_L_tryGrow (l : Launch) (hlt : l.stackTraces = false) (D : va_G) (cy : Nat → ClassId) (ad : AD) (V : BV) (d : Int32) (i : Int32) (val2 : Int32) (sz : Nat) (hho : hok V.2.2.2.2.2.1) (hsz2 : szok (V.2.1.1 0 0)) : CI l yL_tryGrow wsL_tryGrow rL_tryGrow D cy [.ref (ad 0 0 0), .int d, .int i, .int val2] (wB cy ad V) sz (r_L_tryGrow V d i val2) (wB cy ad (w_X5_strengthen V d i val2)) 3 18 := by
  refine st_h (cc := cL_tryGrow) (maxL := 5) (by decide) rfl (Nat.le_of_ble_eq_true rfl) ?_
  intro pp e s m below meth c A Q ls hx hb hts hown hml hlocks htab hsz hP hK hD hE hA hl hret
  subst hsz
  have hown : s.vm.findClass RL = some m.cls := hown
  have hl : lv_has ls 5 [(0, .ref (ad 0 0 0)), (1, .int d), (2, .int i), (3, .int val2)] := hl
  obtain ⟨H, hH⟩ : ∃ H, H = s.heap := ⟨_, rfl⟩
  rw [← hH] at hP ⊢
  have hS : va_S A s.heap H [] := by rw [hH]; exact va_S.rf
  obtain ⟨locs, hlo⟩ : ∃ locs : List Loc, locs = [] := ⟨_, rfl⟩
  rw [← hlo] at hS ⊢
  refine lv_aload_n hx hb dL_tryGrow_0 rfl (lv_at hl 0 rfl) ?_
  refine lv_iload_n hx hb dL_tryGrow_1 rfl (lv_at hl 1 rfl) ?_
  refine lv_iload_n hx hb dL_tryGrow_2 rfl (lv_at hl 2 rfl) ?_
  refine lv_iload_n hx hb dL_tryGrow_3 rfl (lv_at hl 3 rfl) ?_
  refine clx_i (vx_runV (As := [.int d, .int i, .int val2]) (rest := []) ⟨hx, hb, hml, hown, hts⟩ (c_X5_strengthen l hlt D cy ad V d i val2 H.size hho hsz2) (cwV 3 hts gL_tryGrow_X5_strengthen rfl rfl rfl (by decide +kernel) ⟨Nat.le_of_ble_eq_true rfl, Nat.le_of_ble_eq_true rfl⟩) ⟨blU, va_recv hK hP (ci := 4) (q0 := 0) rfl rfl, preU hP hD (pmI _) hK hE hS hA⟩ rfl rfl hl.1 rfl (lv_room (Nat.le_of_ble_eq_true rfl)) dL_tryGrow_4 ⟨Nat.le_of_ble_eq_true rfl, Nat.le_of_ble_eq_true rfl⟩) hP hD (pmI _) hS hA (fun c9 q9 ce H locs hq hv hcl hP hD hS => ?_) (fun c9 H locs hP hD hS => ?_)
  · have hP : va_P D vwCl (wB cy ad (w_X5_strengthen V d i val2)) H := vP_perm hP (pmI _).symm
    have hD : va_D A (wB cy ad (w_X5_strengthen V d i val2)) := vD_perm hD (pmI _).symm
    rcases k_L_tryGrow V d i val2 with hc | hc | hc
    · exact absurd hc c9
    · rw [hc, exn_1] at hcl
      refine vx_catch (E := "java/lang/IndexOutOfBoundsException") (name := "java/lang/IndexOutOfBoundsException") hown [] ⟨0, 7, 8, 24⟩ [⟨0, 7, 13, 13⟩] (htab.trans rfl) (fun z hz => absurd hz List.not_mem_nil) (by decide) (by decide) (hts _ (List.mem_of_getElem? (i := 1) rfl)) (va_Nw.use rfl hE.2.2.2.2.2.2.2.2.2.2.2.2.2.2.2.2.2.2.1) hq hv hcl ?_
      refine lv_astore (lv' := [(4, .ref q9), (0, .ref (ad 0 0 0)), (1, .int d), (2, .int i), (3, .int val2)]) hx hb dL_tryGrow_8 hl (by decide) rfl (fun ls hl => ?_)
      refine lv_ldc (v := (-9999001)) hx hb hown (hts _ (List.mem_of_getElem? (i := 3) rfl)) dL_tryGrow_10 ?_
      exact hret _ H locs _ ls (by unfold r_L_tryGrow; rw [if_neg c9]; exact hc.symm) hP hD hS dL_tryGrow_12
    · rw [hc, exn_2] at hcl
      refine vx_catch (E := "java/lang/IllegalArgumentException") (name := "java/lang/IllegalArgumentException") hown [⟨0, 7, 8, 24⟩] ⟨0, 7, 13, 13⟩ [] (htab.trans rfl) (fun z hz => by rw [List.mem_singleton.mp hz]; exact Or.inr ⟨by decide, "java/lang/IndexOutOfBoundsException", (hts _ (List.mem_of_getElem? (i := 1) rfl)), hE.2.2.2.2.2.2.1.1⟩) (by decide) (by decide) (hts _ (List.mem_of_getElem? (i := 2) rfl)) (va_Nw.use rfl hE.2.2.2.2.2.2.2.2.2.2.2.2.2.2.2.2.2.2.2.1) hq hv hcl ?_
      refine lv_astore (lv' := [(4, .ref q9), (0, .ref (ad 0 0 0)), (1, .int d), (2, .int i), (3, .int val2)]) hx hb dL_tryGrow_13 hl (by decide) rfl (fun ls hl => ?_)
      refine lv_ldc (v := (-9999002)) hx hb hown (hts _ (List.mem_of_getElem? (i := 4) rfl)) dL_tryGrow_15 ?_
      exact hret _ H locs _ ls (by unfold r_L_tryGrow; rw [if_neg c9]; exact hc.symm) hP hD hS dL_tryGrow_17
  · have hP : va_P D vwCl (wB cy ad (w_X5_strengthen V d i val2)) H := vP_perm hP (pmI _).symm
    have hD : va_D A (wB cy ad (w_X5_strengthen V d i val2)) := vD_perm hD (pmI _).symm
    exact hret _ H locs _ ls (by unfold r_L_tryGrow; rw [if_pos c9]) hP hD hS dL_tryGrow_7

theorem k_L_tryPlay (V : BV)  : (o_X5_play V).1 = 0 ∨ (o_X5_play V).1 = -9999003 := by
  unfold o_X5_play
  repeat' split
  all_goals first
    | exact Or.inl rfl
    | exact Or.inr rfl
def r_L_tryPlay (V : BV)  : Int32 := if (o_X5_play V).1 = 0 then (o_X5_play V).2 else (o_X5_play V).1
abbrev rL_tryPlay : Room := { frames := 7, cells := 1, slots := 6, locals := 145 }
set_option maxHeartbeats 4000000 in
set_option maxRecDepth 100000 in
theorem c_L_tryPlay (l : Launch) (hlt : l.stackTraces = false) (D : va_G) (cy : Nat → ClassId) (ad : AD) (V : BV)  (sz : Nat) (hho : hok V.2.2.2.2.2.1) (hsz2 : szok (V.2.1.1 0 0)) (hlen : ∃ n, n ≤ 80 ∧ V.1 3 0 = nI n) (hg : ∃ g, g < 26 ∧ V.1 6 0 = nI g) : CI l yL_tryPlay wsL_tryPlay rL_tryPlay D cy [.ref (ad 0 0 0)] (wB cy ad V) sz (r_L_tryPlay V ) (wB cy ad (w_X5_play V)) 1 6 := by
  refine st_h (cc := cL_tryPlay) (maxL := 2) (by decide) rfl (Nat.le_of_ble_eq_true rfl) ?_
  intro pp e s m below meth c A Q ls hx hb hts hown hml hlocks htab hsz hP hK hD hE hA hl hret
  subst hsz
  have hown : s.vm.findClass RL = some m.cls := hown
  have hl : lv_has ls 2 [(0, .ref (ad 0 0 0))] := hl
  obtain ⟨H, hH⟩ : ∃ H, H = s.heap := ⟨_, rfl⟩
  rw [← hH] at hP ⊢
  have hS : va_S A s.heap H [] := by rw [hH]; exact va_S.rf
  obtain ⟨locs, hlo⟩ : ∃ locs : List Loc, locs = [] := ⟨_, rfl⟩
  rw [← hlo] at hS ⊢
  refine lv_aload_n hx hb dL_tryPlay_0 rfl (lv_at hl 0 rfl) ?_
  refine clx_i (vx_runV (As := []) (rest := []) ⟨hx, hb, hml, hown, hts⟩ (c_X5_play l hlt D cy ad V  H.size hho hsz2 hlen hg) (cwV 0 hts gL_tryPlay_X5_play rfl rfl rfl (by decide +kernel) ⟨Nat.le_of_ble_eq_true rfl, Nat.le_of_ble_eq_true rfl⟩) ⟨blU, va_recv hK hP (ci := 4) (q0 := 0) rfl rfl, preU hP hD (pmI _) hK hE hS hA⟩ rfl rfl hl.1 rfl (lv_room (Nat.le_of_ble_eq_true rfl)) dL_tryPlay_1 ⟨Nat.le_of_ble_eq_true rfl, Nat.le_of_ble_eq_true rfl⟩) hP hD (pmI _) hS hA (fun c9 q9 ce H locs hq hv hcl hP hD hS => ?_) (fun c9 H locs hP hD hS => ?_)
  · have hP : va_P D vwCl (wB cy ad (w_X5_play V)) H := vP_perm hP (pmI _).symm
    have hD : va_D A (wB cy ad (w_X5_play V)) := vD_perm hD (pmI _).symm
    rcases k_L_tryPlay V  with hc | hc
    · exact absurd hc c9
    · rw [hc, exn_3] at hcl
      refine vx_catch (E := "java/lang/IllegalStateException") (name := "java/lang/IllegalStateException") hown [] ⟨0, 4, 5, 31⟩ [] (htab.trans rfl) (fun z hz => absurd hz List.not_mem_nil) (by decide) (by decide) (hts _ (List.mem_of_getElem? (i := 1) rfl)) (va_Nw.use rfl hE.2.2.2.2.2.2.2.2.2.2.2.2.2.2.2.2.2.2.2.2) hq hv hcl ?_
      refine lv_astore_n (lv' := [(1, .ref q9), (0, .ref (ad 0 0 0))]) hx hb dL_tryPlay_5 rfl hl (by decide) rfl (fun ls hl => ?_)
      refine lv_ldc (v := (-9999003)) hx hb hown (hts _ (List.mem_of_getElem? (i := 2) rfl)) dL_tryPlay_6 ?_
      exact hret _ H locs _ ls (by unfold r_L_tryPlay; rw [if_neg c9]; exact hc.symm) hP hD hS dL_tryPlay_8
  · have hP : va_P D vwCl (wB cy ad (w_X5_play V)) H := vP_perm hP (pmI _).symm
    have hD : va_D A (wB cy ad (w_X5_play V)) := vD_perm hD (pmI _).symm
    exact hret _ H locs _ ls (by unfold r_L_tryPlay; rw [if_pos c9]) hP hD hS dL_tryPlay_4

theorem k_L_tryUndo (V : BV)  : (o_X5_undo V).1 = 0 ∨ (o_X5_undo V).1 = -9999003 := by
  unfold o_X5_undo
  repeat' split
  all_goals first
    | exact Or.inl rfl
    | exact Or.inr rfl
def r_L_tryUndo (V : BV)  : Int32 := if (o_X5_undo V).1 = 0 then (o_X5_undo V).2 else (o_X5_undo V).1
abbrev rL_tryUndo : Room := { frames := 7, cells := 1, slots := 6, locals := 144 }
set_option maxHeartbeats 4000000 in
set_option maxRecDepth 100000 in
theorem c_L_tryUndo (l : Launch) (hlt : l.stackTraces = false) (D : va_G) (cy : Nat → ClassId) (ad : AD) (V : BV)  (sz : Nat) (hho : hok V.2.2.2.2.2.1) : CI l yL_tryUndo wsL_tryUndo rL_tryUndo D cy [.ref (ad 0 0 0)] (wB cy ad V) sz (r_L_tryUndo V ) (wB cy ad (w_X5_undo V)) 1 6 := by
  refine st_h (cc := cL_tryUndo) (maxL := 2) (by decide) rfl (Nat.le_of_ble_eq_true rfl) ?_
  intro pp e s m below meth c A Q ls hx hb hts hown hml hlocks htab hsz hP hK hD hE hA hl hret
  subst hsz
  have hown : s.vm.findClass RL = some m.cls := hown
  have hl : lv_has ls 2 [(0, .ref (ad 0 0 0))] := hl
  obtain ⟨H, hH⟩ : ∃ H, H = s.heap := ⟨_, rfl⟩
  rw [← hH] at hP ⊢
  have hS : va_S A s.heap H [] := by rw [hH]; exact va_S.rf
  obtain ⟨locs, hlo⟩ : ∃ locs : List Loc, locs = [] := ⟨_, rfl⟩
  rw [← hlo] at hS ⊢
  refine lv_aload_n hx hb dL_tryUndo_0 rfl (lv_at hl 0 rfl) ?_
  refine clx_i (vx_runV (As := []) (rest := []) ⟨hx, hb, hml, hown, hts⟩ (c_X5_undo l hlt D cy ad V  H.size hho) (cwV 0 hts gL_tryUndo_X5_undo rfl rfl rfl (by decide +kernel) ⟨Nat.le_of_ble_eq_true rfl, Nat.le_of_ble_eq_true rfl⟩) ⟨blU, va_recv hK hP (ci := 4) (q0 := 0) rfl rfl, preU hP hD (pmI _) hK hE hS hA⟩ rfl rfl hl.1 rfl (lv_room (Nat.le_of_ble_eq_true rfl)) dL_tryUndo_1 ⟨Nat.le_of_ble_eq_true rfl, Nat.le_of_ble_eq_true rfl⟩) hP hD (pmI _) hS hA (fun c9 q9 ce H locs hq hv hcl hP hD hS => ?_) (fun c9 H locs hP hD hS => ?_)
  · have hP : va_P D vwCl (wB cy ad (w_X5_undo V)) H := vP_perm hP (pmI _).symm
    have hD : va_D A (wB cy ad (w_X5_undo V)) := vD_perm hD (pmI _).symm
    rcases k_L_tryUndo V  with hc | hc
    · exact absurd hc c9
    · rw [hc, exn_3] at hcl
      refine vx_catch (E := "java/lang/IllegalStateException") (name := "java/lang/IllegalStateException") hown [] ⟨0, 4, 5, 31⟩ [] (htab.trans rfl) (fun z hz => absurd hz List.not_mem_nil) (by decide) (by decide) (hts _ (List.mem_of_getElem? (i := 1) rfl)) (va_Nw.use rfl hE.2.2.2.2.2.2.2.2.2.2.2.2.2.2.2.2.2.2.2.2) hq hv hcl ?_
      refine lv_astore_n (lv' := [(1, .ref q9), (0, .ref (ad 0 0 0))]) hx hb dL_tryUndo_5 rfl hl (by decide) rfl (fun ls hl => ?_)
      refine lv_ldc (v := (-9999003)) hx hb hown (hts _ (List.mem_of_getElem? (i := 2) rfl)) dL_tryUndo_6 ?_
      exact hret _ H locs _ ls (by unfold r_L_tryUndo; rw [if_neg c9]; exact hc.symm) hP hD hS dL_tryUndo_8
  · have hP : va_P D vwCl (wB cy ad (w_X5_undo V)) H := vP_perm hP (pmI _).symm
    have hD : va_D A (wB cy ad (w_X5_undo V)) := vD_perm hD (pmI _).symm
    exact hret _ H locs _ ls (by unfold r_L_tryUndo; rw [if_pos c9]) hP hD hS dL_tryUndo_4

theorem k_L_tryMixing (V : BV) (d : Int32) : (o_X5_bestMixing V d).1 = 0 ∨ (o_X5_bestMixing V d).1 = -9999001 := by
  unfold o_X5_bestMixing
  repeat' split
  all_goals first
    | exact Or.inl rfl
    | exact Or.inr rfl
    | exact kcD _
    | exact kcP _
    | exact kcS _
    | exact kcN _ _
def r_L_tryMixing (V : BV) (d : Int32) : Int32 := if (o_X5_bestMixing V d).1 = 0 then (o_X5_bestMixing V d).2 else (o_X5_bestMixing V d).1
abbrev rL_tryMixing : Room := { frames := 8, cells := 1, slots := 6, locals := 163 }
set_option maxHeartbeats 4000000 in
set_option maxRecDepth 100000 in
theorem c_L_tryMixing (l : Launch) (hlt : l.stackTraces = false) (D : va_G) (cy : Nat → ClassId) (ad : AD) (V : BV) (d : Int32) (sz : Nat) (hsz2 : szok (V.2.1.1 0 0)) (hlen : ∃ n, n ≤ 80 ∧ V.1 3 0 = nI n) (hg : ∃ g, g < 26 ∧ V.1 6 0 = nI g) : CI l yL_tryMixing wsL_tryMixing rL_tryMixing D cy [.ref (ad 0 0 0), .int d] (wB cy ad V) sz (r_L_tryMixing V d) (wB cy ad (w_X5_bestMixing V d)) 1 6 := by
  refine st_h (cc := cL_tryMixing) (maxL := 3) (by decide) rfl (Nat.le_of_ble_eq_true rfl) ?_
  intro pp e s m below meth c A Q ls hx hb hts hown hml hlocks htab hsz hP hK hD hE hA hl hret
  subst hsz
  have hown : s.vm.findClass RL = some m.cls := hown
  have hl : lv_has ls 3 [(0, .ref (ad 0 0 0)), (1, .int d)] := hl
  obtain ⟨H, hH⟩ : ∃ H, H = s.heap := ⟨_, rfl⟩
  rw [← hH] at hP ⊢
  have hS : va_S A s.heap H [] := by rw [hH]; exact va_S.rf
  obtain ⟨locs, hlo⟩ : ∃ locs : List Loc, locs = [] := ⟨_, rfl⟩
  rw [← hlo] at hS ⊢
  refine lv_aload_n hx hb dL_tryMixing_0 rfl (lv_at hl 0 rfl) ?_
  refine lv_iload_n hx hb dL_tryMixing_1 rfl (lv_at hl 1 rfl) ?_
  refine clx_i (vx_runV (As := [.int d]) (rest := []) ⟨hx, hb, hml, hown, hts⟩ (c_X5_bestMixing l hlt D cy ad V d H.size hsz2 hlen hg) (cwV 1 hts gL_tryMixing_X5_bestMixing rfl rfl rfl (by decide +kernel) ⟨Nat.le_of_ble_eq_true rfl, Nat.le_of_ble_eq_true rfl⟩) ⟨blU, va_recv hK hP (ci := 4) (q0 := 0) rfl rfl, preU hP hD (pmI _) hK hE hS hA⟩ rfl rfl hl.1 rfl (lv_room (Nat.le_of_ble_eq_true rfl)) dL_tryMixing_2 ⟨Nat.le_of_ble_eq_true rfl, Nat.le_of_ble_eq_true rfl⟩) hP hD (pmI _) hS hA (fun c9 q9 ce H locs hq hv hcl hP hD hS => ?_) (fun c9 H locs hP hD hS => ?_)
  · have hP : va_P D vwCl (wB cy ad (w_X5_bestMixing V d)) H := vP_perm hP (pmI _).symm
    have hD : va_D A (wB cy ad (w_X5_bestMixing V d)) := vD_perm hD (pmI _).symm
    rcases k_L_tryMixing V d with hc | hc
    · exact absurd hc c9
    · rw [hc, exn_1] at hcl
      refine vx_catch (E := "java/lang/IndexOutOfBoundsException") (name := "java/lang/IndexOutOfBoundsException") hown [] ⟨0, 5, 6, 24⟩ [] (htab.trans rfl) (fun z hz => absurd hz List.not_mem_nil) (by decide) (by decide) (hts _ (List.mem_of_getElem? (i := 1) rfl)) (va_Nw.use rfl hE.2.2.2.2.2.2.2.2.2.2.2.2.2.2.2.2.2.2.1) hq hv hcl ?_
      refine lv_astore_n (lv' := [(2, .ref q9), (0, .ref (ad 0 0 0)), (1, .int d)]) hx hb dL_tryMixing_6 rfl hl (by decide) rfl (fun ls hl => ?_)
      refine lv_ldc (v := (-9999001)) hx hb hown (hts _ (List.mem_of_getElem? (i := 2) rfl)) dL_tryMixing_7 ?_
      exact hret _ H locs _ ls (by unfold r_L_tryMixing; rw [if_neg c9]; exact hc.symm) hP hD hS dL_tryMixing_9
  · have hP : va_P D vwCl (wB cy ad (w_X5_bestMixing V d)) H := vP_perm hP (pmI _).symm
    have hD : va_D A (wB cy ad (w_X5_bestMixing V d)) := vD_perm hD (pmI _).symm
    exact hret _ H locs _ ls (by unfold r_L_tryMixing; rw [if_pos c9]) hP hD hS dL_tryMixing_5

theorem k_L_tryLength (V : BV) (d : Int32) : (o_X5_bestLength V d).1 = 0 ∨ (o_X5_bestLength V d).1 = -9999001 := by
  unfold o_X5_bestLength
  repeat' split
  all_goals first
    | exact Or.inl rfl
    | exact Or.inr rfl
    | exact kcD _
    | exact kcP _
    | exact kcS _
    | exact kcN _ _
def r_L_tryLength (V : BV) (d : Int32) : Int32 := if (o_X5_bestLength V d).1 = 0 then (o_X5_bestLength V d).2 else (o_X5_bestLength V d).1
abbrev rL_tryLength : Room := { frames := 8, cells := 1, slots := 6, locals := 163 }
set_option maxHeartbeats 4000000 in
set_option maxRecDepth 100000 in
theorem c_L_tryLength (l : Launch) (hlt : l.stackTraces = false) (D : va_G) (cy : Nat → ClassId) (ad : AD) (V : BV) (d : Int32) (sz : Nat) (hsz2 : szok (V.2.1.1 0 0)) (hlen : ∃ n, n ≤ 80 ∧ V.1 3 0 = nI n) (hg : ∃ g, g < 26 ∧ V.1 6 0 = nI g) : CI l yL_tryLength wsL_tryLength rL_tryLength D cy [.ref (ad 0 0 0), .int d] (wB cy ad V) sz (r_L_tryLength V d) (wB cy ad (w_X5_bestLength V d)) 1 6 := by
  refine st_h (cc := cL_tryLength) (maxL := 3) (by decide) rfl (Nat.le_of_ble_eq_true rfl) ?_
  intro pp e s m below meth c A Q ls hx hb hts hown hml hlocks htab hsz hP hK hD hE hA hl hret
  subst hsz
  have hown : s.vm.findClass RL = some m.cls := hown
  have hl : lv_has ls 3 [(0, .ref (ad 0 0 0)), (1, .int d)] := hl
  obtain ⟨H, hH⟩ : ∃ H, H = s.heap := ⟨_, rfl⟩
  rw [← hH] at hP ⊢
  have hS : va_S A s.heap H [] := by rw [hH]; exact va_S.rf
  obtain ⟨locs, hlo⟩ : ∃ locs : List Loc, locs = [] := ⟨_, rfl⟩
  rw [← hlo] at hS ⊢
  refine lv_aload_n hx hb dL_tryLength_0 rfl (lv_at hl 0 rfl) ?_
  refine lv_iload_n hx hb dL_tryLength_1 rfl (lv_at hl 1 rfl) ?_
  refine clx_i (vx_runV (As := [.int d]) (rest := []) ⟨hx, hb, hml, hown, hts⟩ (c_X5_bestLength l hlt D cy ad V d H.size hsz2 hlen hg) (cwV 1 hts gL_tryLength_X5_bestLength rfl rfl rfl (by decide +kernel) ⟨Nat.le_of_ble_eq_true rfl, Nat.le_of_ble_eq_true rfl⟩) ⟨blU, va_recv hK hP (ci := 4) (q0 := 0) rfl rfl, preU hP hD (pmI _) hK hE hS hA⟩ rfl rfl hl.1 rfl (lv_room (Nat.le_of_ble_eq_true rfl)) dL_tryLength_2 ⟨Nat.le_of_ble_eq_true rfl, Nat.le_of_ble_eq_true rfl⟩) hP hD (pmI _) hS hA (fun c9 q9 ce H locs hq hv hcl hP hD hS => ?_) (fun c9 H locs hP hD hS => ?_)
  · have hP : va_P D vwCl (wB cy ad (w_X5_bestLength V d)) H := vP_perm hP (pmI _).symm
    have hD : va_D A (wB cy ad (w_X5_bestLength V d)) := vD_perm hD (pmI _).symm
    rcases k_L_tryLength V d with hc | hc
    · exact absurd hc c9
    · rw [hc, exn_1] at hcl
      refine vx_catch (E := "java/lang/IndexOutOfBoundsException") (name := "java/lang/IndexOutOfBoundsException") hown [] ⟨0, 5, 6, 24⟩ [] (htab.trans rfl) (fun z hz => absurd hz List.not_mem_nil) (by decide) (by decide) (hts _ (List.mem_of_getElem? (i := 1) rfl)) (va_Nw.use rfl hE.2.2.2.2.2.2.2.2.2.2.2.2.2.2.2.2.2.2.1) hq hv hcl ?_
      refine lv_astore_n (lv' := [(2, .ref q9), (0, .ref (ad 0 0 0)), (1, .int d)]) hx hb dL_tryLength_6 rfl hl (by decide) rfl (fun ls hl => ?_)
      refine lv_ldc (v := (-9999001)) hx hb hown (hts _ (List.mem_of_getElem? (i := 2) rfl)) dL_tryLength_7 ?_
      exact hret _ H locs _ ls (by unfold r_L_tryLength; rw [if_neg c9]; exact hc.symm) hP hD hS dL_tryLength_9
  · have hP : va_P D vwCl (wB cy ad (w_X5_bestLength V d)) H := vP_perm hP (pmI _).symm
    have hD : va_D A (wB cy ad (w_X5_bestLength V d)) := vD_perm hD (pmI _).symm
    exact hret _ H locs _ ls (by unfold r_L_tryLength; rw [if_pos c9]) hP hD hS dL_tryLength_5

theorem k_L_trySharing (V : BV) (d : Int32) (pl : Int32) : (o_X5_sharing d pl).1 = 0 ∨ (o_X5_sharing d pl).1 = -9999001 := by
  unfold o_X5_sharing
  repeat' split
  all_goals first
    | exact Or.inl rfl
    | exact Or.inr rfl
    | exact kcD _
    | exact kcP _
    | exact kcS _
    | exact kcN _ _
def r_L_trySharing (V : BV) (d : Int32) (pl : Int32) : Int32 := if (o_X5_sharing d pl).1 = 0 then (o_X5_sharing d pl).2 else (o_X5_sharing d pl).1
abbrev rL_trySharing : Room := { frames := 8, cells := 2, slots := 12, locals := 135 }
set_option maxHeartbeats 4000000 in
set_option maxRecDepth 100000 in
theorem c_L_trySharing (l : Launch) (hlt : l.stackTraces = false) (D : va_G) (cy : Nat → ClassId) (ad : AD) (V : BV) (d : Int32) (pl : Int32) (sz : Nat) (hnp : ¬ o_X5_checkPlace pl = 0) : CI l yL_trySharing wsL_trySharing rL_trySharing D cy [.ref (ad 0 0 0), .int d, .int pl] (wB cy ad V) sz (r_L_trySharing V d pl) (wB cy ad V) 2 12 := by
  refine st_h (cc := cL_trySharing) (maxL := 4) (by decide) rfl (Nat.le_of_ble_eq_true rfl) ?_
  intro pp e s m below meth c A Q ls hx hb hts hown hml hlocks htab hsz hP hK hD hE hA hl hret
  subst hsz
  have hown : s.vm.findClass RL = some m.cls := hown
  have hl : lv_has ls 4 [(0, .ref (ad 0 0 0)), (1, .int d), (2, .int pl)] := hl
  obtain ⟨H, hH⟩ : ∃ H, H = s.heap := ⟨_, rfl⟩
  rw [← hH] at hP ⊢
  have hS : va_S A s.heap H [] := by rw [hH]; exact va_S.rf
  obtain ⟨locs, hlo⟩ : ∃ locs : List Loc, locs = [] := ⟨_, rfl⟩
  rw [← hlo] at hS ⊢
  refine lv_aload_n hx hb dL_trySharing_0 rfl (lv_at hl 0 rfl) ?_
  refine lv_iload_n hx hb dL_trySharing_1 rfl (lv_at hl 1 rfl) ?_
  refine lv_iload_n hx hb dL_trySharing_2 rfl (lv_at hl 2 rfl) ?_
  refine clx_i (vx_runV (As := [.int d, .int pl]) (rest := []) ⟨hx, hb, hml, hown, hts⟩ (c_X5_sharing l hlt D cy ad V d pl H.size hnp) (cwV 2 hts gL_trySharing_X5_sharing rfl rfl rfl (by decide +kernel) ⟨Nat.le_of_ble_eq_true rfl, Nat.le_of_ble_eq_true rfl⟩) ⟨blU, va_recv hK hP (ci := 4) (q0 := 0) rfl rfl, preU hP hD (pmI _) hK hE hS hA⟩ rfl rfl hl.1 rfl (lv_room (Nat.le_of_ble_eq_true rfl)) dL_trySharing_3 ⟨Nat.le_of_ble_eq_true rfl, Nat.le_of_ble_eq_true rfl⟩) hP hD (pmI _) hS hA (fun c9 q9 ce H locs hq hv hcl hP hD hS => ?_) (fun c9 H locs hP hD hS => ?_)
  · have hP : va_P D vwCl (wB cy ad V) H := vP_perm hP (pmI _).symm
    have hD : va_D A (wB cy ad V) := vD_perm hD (pmI _).symm
    rcases k_L_trySharing V d pl with hc | hc
    · exact absurd hc c9
    · rw [hc, exn_1] at hcl
      refine vx_catch (E := "java/lang/IndexOutOfBoundsException") (name := "java/lang/IndexOutOfBoundsException") hown [] ⟨0, 6, 7, 24⟩ [] (htab.trans rfl) (fun z hz => absurd hz List.not_mem_nil) (by decide) (by decide) (hts _ (List.mem_of_getElem? (i := 1) rfl)) (va_Nw.use rfl hE.2.2.2.2.2.2.2.2.2.2.2.2.2.2.2.2.2.2.1) hq hv hcl ?_
      refine lv_astore_n (lv' := [(3, .ref q9), (0, .ref (ad 0 0 0)), (1, .int d), (2, .int pl)]) hx hb dL_trySharing_7 rfl hl (by decide) rfl (fun ls hl => ?_)
      refine lv_ldc (v := (-9999001)) hx hb hown (hts _ (List.mem_of_getElem? (i := 2) rfl)) dL_trySharing_8 ?_
      exact hret _ H locs _ ls (by unfold r_L_trySharing; rw [if_neg c9]; exact hc.symm) hP hD hS dL_trySharing_10
  · have hP : va_P D vwCl (wB cy ad V) H := vP_perm hP (pmI _).symm
    have hD : va_D A (wB cy ad V) := vD_perm hD (pmI _).symm
    exact hret _ H locs _ ls (by unfold r_L_trySharing; rw [if_pos c9]) hP hD hS dL_trySharing_6

theorem k_L_tryHolds (V : BV) (pl : Int32) : (o_X5_holds V pl).1 = 0 ∨ (o_X5_holds V pl).1 = -9999001 := by
  unfold o_X5_holds
  repeat' split
  all_goals first
    | exact Or.inl rfl
    | exact Or.inr rfl
    | exact kcD _
    | exact kcP _
    | exact kcS _
    | exact kcN _ _
def r_L_tryHolds (V : BV) (pl : Int32) : Int32 := if (o_X5_holds V pl).1 = 0 then (o_X5_holds V pl).2 else (o_X5_holds V pl).1
abbrev rL_tryHolds : Room := { frames := 8, cells := 1, slots := 6, locals := 133 }
set_option maxHeartbeats 4000000 in
set_option maxRecDepth 100000 in
theorem c_L_tryHolds (l : Launch) (hlt : l.stackTraces = false) (D : va_G) (cy : Nat → ClassId) (ad : AD) (V : BV) (pl : Int32) (sz : Nat) (hsz2 : szok (V.2.1.1 0 0)) : CI l yL_tryHolds wsL_tryHolds rL_tryHolds D cy [.ref (ad 0 0 0), .int pl] (wB cy ad V) sz (r_L_tryHolds V pl) (wB cy ad (w_X5_holds V pl)) 1 6 := by
  refine st_h (cc := cL_tryHolds) (maxL := 3) (by decide) rfl (Nat.le_of_ble_eq_true rfl) ?_
  intro pp e s m below meth c A Q ls hx hb hts hown hml hlocks htab hsz hP hK hD hE hA hl hret
  subst hsz
  have hown : s.vm.findClass RL = some m.cls := hown
  have hl : lv_has ls 3 [(0, .ref (ad 0 0 0)), (1, .int pl)] := hl
  obtain ⟨H, hH⟩ : ∃ H, H = s.heap := ⟨_, rfl⟩
  rw [← hH] at hP ⊢
  have hS : va_S A s.heap H [] := by rw [hH]; exact va_S.rf
  obtain ⟨locs, hlo⟩ : ∃ locs : List Loc, locs = [] := ⟨_, rfl⟩
  rw [← hlo] at hS ⊢
  refine lv_aload_n hx hb dL_tryHolds_0 rfl (lv_at hl 0 rfl) ?_
  refine lv_iload_n hx hb dL_tryHolds_1 rfl (lv_at hl 1 rfl) ?_
  refine clx_i (vx_runV (As := [.int pl]) (rest := []) ⟨hx, hb, hml, hown, hts⟩ (c_X5_holds l hlt D cy ad V pl H.size hsz2) (cwV 1 hts gL_tryHolds_X5_holds rfl rfl rfl (by decide +kernel) ⟨Nat.le_of_ble_eq_true rfl, Nat.le_of_ble_eq_true rfl⟩) ⟨blU, va_recv hK hP (ci := 4) (q0 := 0) rfl rfl, preU hP hD (pmI _) hK hE hS hA⟩ rfl rfl hl.1 rfl (lv_room (Nat.le_of_ble_eq_true rfl)) dL_tryHolds_2 ⟨Nat.le_of_ble_eq_true rfl, Nat.le_of_ble_eq_true rfl⟩) hP hD (pmI _) hS hA (fun c9 q9 ce H locs hq hv hcl hP hD hS => ?_) (fun c9 H locs hP hD hS => ?_)
  · have hP : va_P D vwCl (wB cy ad (w_X5_holds V pl)) H := vP_perm hP (pmI _).symm
    have hD : va_D A (wB cy ad (w_X5_holds V pl)) := vD_perm hD (pmI _).symm
    rcases k_L_tryHolds V pl with hc | hc
    · exact absurd hc c9
    · rw [hc, exn_1] at hcl
      refine vx_catch (E := "java/lang/IndexOutOfBoundsException") (name := "java/lang/IndexOutOfBoundsException") hown [] ⟨0, 5, 6, 24⟩ [] (htab.trans rfl) (fun z hz => absurd hz List.not_mem_nil) (by decide) (by decide) (hts _ (List.mem_of_getElem? (i := 1) rfl)) (va_Nw.use rfl hE.2.2.2.2.2.2.2.2.2.2.2.2.2.2.2.2.2.2.1) hq hv hcl ?_
      refine lv_astore_n (lv' := [(2, .ref q9), (0, .ref (ad 0 0 0)), (1, .int pl)]) hx hb dL_tryHolds_6 rfl hl (by decide) rfl (fun ls hl => ?_)
      refine lv_ldc (v := (-9999001)) hx hb hown (hts _ (List.mem_of_getElem? (i := 2) rfl)) dL_tryHolds_7 ?_
      exact hret _ H locs _ ls (by unfold r_L_tryHolds; rw [if_neg c9]; exact hc.symm) hP hD hS dL_tryHolds_9
  · have hP : va_P D vwCl (wB cy ad (w_X5_holds V pl)) H := vP_perm hP (pmI _).symm
    have hD : va_D A (wB cy ad (w_X5_holds V pl)) := vD_perm hD (pmI _).symm
    exact hret _ H locs _ ls (by unfold r_L_tryHolds; rw [if_pos c9]) hP hD hS dL_tryHolds_5

theorem k_L_tryKeep (V : BV) (slot : Int32) : (o_X5_save V slot).1 = 0 ∨ (o_X5_save V slot).1 = -9999001 := by
  unfold o_X5_save
  repeat' split
  all_goals first
    | exact Or.inl rfl
    | exact Or.inr rfl
    | exact kcD _
    | exact kcP _
    | exact kcS _
    | exact kcN _ _
def r_L_tryKeep (V : BV) (slot : Int32) : Int32 := if (o_X5_save V slot).1 = 0 then (o_X5_save V slot).2 else (o_X5_save V slot).1
abbrev rL_tryKeep : Room := { frames := 8, cells := 1, slots := 6, locals := 131 }
set_option maxHeartbeats 4000000 in
set_option maxRecDepth 100000 in
theorem c_L_tryKeep (l : Launch) (hlt : l.stackTraces = false) (D : va_G) (cy : Nat → ClassId) (ad : AD) (V : BV) (slot : Int32) (sz : Nat)  : CI l yL_tryKeep wsL_tryKeep rL_tryKeep D cy [.ref (ad 0 0 0), .int slot] (wB cy ad V) sz (r_L_tryKeep V slot) (wB cy ad (w_X5_save V slot)) 1 6 := by
  refine st_h (cc := cL_tryKeep) (maxL := 3) (by decide) rfl (Nat.le_of_ble_eq_true rfl) ?_
  intro pp e s m below meth c A Q ls hx hb hts hown hml hlocks htab hsz hP hK hD hE hA hl hret
  subst hsz
  have hown : s.vm.findClass RL = some m.cls := hown
  have hl : lv_has ls 3 [(0, .ref (ad 0 0 0)), (1, .int slot)] := hl
  obtain ⟨H, hH⟩ : ∃ H, H = s.heap := ⟨_, rfl⟩
  rw [← hH] at hP ⊢
  have hS : va_S A s.heap H [] := by rw [hH]; exact va_S.rf
  obtain ⟨locs, hlo⟩ : ∃ locs : List Loc, locs = [] := ⟨_, rfl⟩
  rw [← hlo] at hS ⊢
  refine lv_aload_n hx hb dL_tryKeep_0 rfl (lv_at hl 0 rfl) ?_
  refine lv_iload_n hx hb dL_tryKeep_1 rfl (lv_at hl 1 rfl) ?_
  refine clx_i (vx_runV (As := [.int slot]) (rest := []) ⟨hx, hb, hml, hown, hts⟩ (c_X5_save l hlt D cy ad V slot H.size ) (cwV 1 hts gL_tryKeep_X5_save rfl rfl rfl (by decide +kernel) ⟨Nat.le_of_ble_eq_true rfl, Nat.le_of_ble_eq_true rfl⟩) ⟨blU, va_recv hK hP (ci := 4) (q0 := 0) rfl rfl, preU hP hD (pmI _) hK hE hS hA⟩ rfl rfl hl.1 rfl (lv_room (Nat.le_of_ble_eq_true rfl)) dL_tryKeep_2 ⟨Nat.le_of_ble_eq_true rfl, Nat.le_of_ble_eq_true rfl⟩) hP hD (pmI _) hS hA (fun c9 q9 ce H locs hq hv hcl hP hD hS => ?_) (fun c9 H locs hP hD hS => ?_)
  · have hP : va_P D vwCl (wB cy ad (w_X5_save V slot)) H := vP_perm hP (pmI _).symm
    have hD : va_D A (wB cy ad (w_X5_save V slot)) := vD_perm hD (pmI _).symm
    rcases k_L_tryKeep V slot with hc | hc
    · exact absurd hc c9
    · rw [hc, exn_1] at hcl
      refine vx_catch (E := "java/lang/IndexOutOfBoundsException") (name := "java/lang/IndexOutOfBoundsException") hown [] ⟨0, 5, 6, 24⟩ [] (htab.trans rfl) (fun z hz => absurd hz List.not_mem_nil) (by decide) (by decide) (hts _ (List.mem_of_getElem? (i := 1) rfl)) (va_Nw.use rfl hE.2.2.2.2.2.2.2.2.2.2.2.2.2.2.2.2.2.2.1) hq hv hcl ?_
      refine lv_astore_n (lv' := [(2, .ref q9), (0, .ref (ad 0 0 0)), (1, .int slot)]) hx hb dL_tryKeep_6 rfl hl (by decide) rfl (fun ls hl => ?_)
      refine lv_ldc (v := (-9999001)) hx hb hown (hts _ (List.mem_of_getElem? (i := 2) rfl)) dL_tryKeep_7 ?_
      exact hret _ H locs _ ls (by unfold r_L_tryKeep; rw [if_neg c9]; exact hc.symm) hP hD hS dL_tryKeep_9
  · have hP : va_P D vwCl (wB cy ad (w_X5_save V slot)) H := vP_perm hP (pmI _).symm
    have hD : va_D A (wB cy ad (w_X5_save V slot)) := vD_perm hD (pmI _).symm
    exact hret _ H locs _ ls (by unfold r_L_tryKeep; rw [if_pos c9]) hP hD hS dL_tryKeep_5

theorem k_L_tryBack (V : BV) (slot : Int32) : (o_X5_restore V slot).1 = 0 ∨ (o_X5_restore V slot).1 = -9999001 ∨ (o_X5_restore V slot).1 = -9999003 := by
  unfold o_X5_restore
  repeat' split
  all_goals first
    | exact Or.inl rfl
    | exact Or.inr (Or.inl rfl)
    | exact Or.inr (Or.inr rfl)
    | exact (kcD _).imp_right Or.inl
    | exact (kcP _).imp_right Or.inl
    | exact (kcS _).imp_right Or.inl
    | exact (kcN _ _).imp_right Or.inl
def r_L_tryBack (V : BV) (slot : Int32) : Int32 := if (o_X5_restore V slot).1 = 0 then (o_X5_restore V slot).2 else (o_X5_restore V slot).1
abbrev rL_tryBack : Room := { frames := 8, cells := 2, slots := 12, locals := 131 }
set_option maxHeartbeats 4000000 in
set_option maxRecDepth 100000 in
theorem c_L_tryBack (l : Launch) (hlt : l.stackTraces = false) (D : va_G) (cy : Nat → ClassId) (ad : AD) (V : BV) (slot : Int32) (sz : Nat)  : CI l yL_tryBack wsL_tryBack rL_tryBack D cy [.ref (ad 0 0 0), .int slot] (wB cy ad V) sz (r_L_tryBack V slot) (wB cy ad (w_X5_restore V slot)) 2 12 := by
  refine st_h (cc := cL_tryBack) (maxL := 3) (by decide) rfl (Nat.le_of_ble_eq_true rfl) ?_
  intro pp e s m below meth c A Q ls hx hb hts hown hml hlocks htab hsz hP hK hD hE hA hl hret
  subst hsz
  have hown : s.vm.findClass RL = some m.cls := hown
  have hl : lv_has ls 3 [(0, .ref (ad 0 0 0)), (1, .int slot)] := hl
  obtain ⟨H, hH⟩ : ∃ H, H = s.heap := ⟨_, rfl⟩
  rw [← hH] at hP ⊢
  have hS : va_S A s.heap H [] := by rw [hH]; exact va_S.rf
  obtain ⟨locs, hlo⟩ : ∃ locs : List Loc, locs = [] := ⟨_, rfl⟩
  rw [← hlo] at hS ⊢
  refine lv_aload_n hx hb dL_tryBack_0 rfl (lv_at hl 0 rfl) ?_
  refine lv_iload_n hx hb dL_tryBack_1 rfl (lv_at hl 1 rfl) ?_
  refine clx_i (vx_runV (As := [.int slot]) (rest := []) ⟨hx, hb, hml, hown, hts⟩ (c_X5_restore l hlt D cy ad V slot H.size ) (cwV 1 hts gL_tryBack_X5_restore rfl rfl rfl (by decide +kernel) ⟨Nat.le_of_ble_eq_true rfl, Nat.le_of_ble_eq_true rfl⟩) ⟨blU, va_recv hK hP (ci := 4) (q0 := 0) rfl rfl, preU hP hD (pmI _) hK hE hS hA⟩ rfl rfl hl.1 rfl (lv_room (Nat.le_of_ble_eq_true rfl)) dL_tryBack_2 ⟨Nat.le_of_ble_eq_true rfl, Nat.le_of_ble_eq_true rfl⟩) hP hD (pmI _) hS hA (fun c9 q9 ce H locs hq hv hcl hP hD hS => ?_) (fun c9 H locs hP hD hS => ?_)
  · have hP : va_P D vwCl (wB cy ad (w_X5_restore V slot)) H := vP_perm hP (pmI _).symm
    have hD : va_D A (wB cy ad (w_X5_restore V slot)) := vD_perm hD (pmI _).symm
    rcases k_L_tryBack V slot with hc | hc | hc
    · exact absurd hc c9
    · rw [hc, exn_1] at hcl
      refine vx_catch (E := "java/lang/IndexOutOfBoundsException") (name := "java/lang/IndexOutOfBoundsException") hown [] ⟨0, 5, 6, 24⟩ [⟨0, 5, 10, 31⟩] (htab.trans rfl) (fun z hz => absurd hz List.not_mem_nil) (by decide) (by decide) (hts _ (List.mem_of_getElem? (i := 1) rfl)) (va_Nw.use rfl hE.2.2.2.2.2.2.2.2.2.2.2.2.2.2.2.2.2.2.1) hq hv hcl ?_
      refine lv_astore_n (lv' := [(2, .ref q9), (0, .ref (ad 0 0 0)), (1, .int slot)]) hx hb dL_tryBack_6 rfl hl (by decide) rfl (fun ls hl => ?_)
      refine lv_ldc (v := (-9999001)) hx hb hown (hts _ (List.mem_of_getElem? (i := 3) rfl)) dL_tryBack_7 ?_
      exact hret _ H locs _ ls (by unfold r_L_tryBack; rw [if_neg c9]; exact hc.symm) hP hD hS dL_tryBack_9
    · rw [hc, exn_3] at hcl
      refine vx_catch (E := "java/lang/IllegalStateException") (name := "java/lang/IllegalStateException") hown [⟨0, 5, 6, 24⟩] ⟨0, 5, 10, 31⟩ [] (htab.trans rfl) (fun z hz => by rw [List.mem_singleton.mp hz]; exact Or.inr ⟨by decide, "java/lang/IndexOutOfBoundsException", (hts _ (List.mem_of_getElem? (i := 1) rfl)), hE.2.2.2.2.2.2.1.2.1⟩) (by decide) (by decide) (hts _ (List.mem_of_getElem? (i := 2) rfl)) (va_Nw.use rfl hE.2.2.2.2.2.2.2.2.2.2.2.2.2.2.2.2.2.2.2.2) hq hv hcl ?_
      refine lv_astore_n (lv' := [(2, .ref q9), (0, .ref (ad 0 0 0)), (1, .int slot)]) hx hb dL_tryBack_10 rfl hl (by decide) rfl (fun ls hl => ?_)
      refine lv_ldc (v := (-9999003)) hx hb hown (hts _ (List.mem_of_getElem? (i := 4) rfl)) dL_tryBack_11 ?_
      exact hret _ H locs _ ls (by unfold r_L_tryBack; rw [if_neg c9]; exact hc.symm) hP hD hS dL_tryBack_13
  · have hP : va_P D vwCl (wB cy ad (w_X5_restore V slot)) H := vP_perm hP (pmI _).symm
    have hD : va_D A (wB cy ad (w_X5_restore V slot)) := vD_perm hD (pmI _).symm
    exact hret _ H locs _ ls (by unfold r_L_tryBack; rw [if_pos c9]) hP hD hS dL_tryBack_5

theorem k_L_tryGo (V : BV) (pl : Int32) (tk : Int32) : (o_X5_branch V pl tk).1 = 0 ∨ (o_X5_branch V pl tk).1 = -9999001 := by
  unfold o_X5_branch
  repeat' split
  all_goals first
    | exact Or.inl rfl
    | exact Or.inr rfl
    | exact kcD _
    | exact kcP _
    | exact kcS _
    | exact kcN _ _
def r_L_tryGo (V : BV) (pl : Int32) (tk : Int32) : Int32 := if (o_X5_branch V pl tk).1 = 0 then (if (o_X5_branch V pl tk).2 = 0 then (0 : Int32) else (1 : Int32)) else (o_X5_branch V pl tk).1
abbrev rL_tryGo : Room := { frames := 8, cells := 1, slots := 6, locals := 146 }
set_option maxHeartbeats 4000000 in
set_option maxRecDepth 100000 in
theorem c_L_tryGo (l : Launch) (hlt : l.stackTraces = false) (D : va_G) (cy : Nat → ClassId) (ad : AD) (V : BV) (pl : Int32) (tk : Int32) (sz : Nat) (hho : hok V.2.2.2.2.2.1) (hsz2 : szok (V.2.1.1 0 0)) : CI l yL_tryGo wsL_tryGo rL_tryGo D cy [.ref (ad 0 0 0), .int pl, .int tk] (wB cy ad V) sz (r_L_tryGo V pl tk) (wB cy ad (w_X5_branch V pl tk)) 1 6 := by
  refine st_h (cc := cL_tryGo) (maxL := 4) (by decide) rfl (Nat.le_of_ble_eq_true rfl) ?_
  intro pp e s m below meth c A Q ls hx hb hts hown hml hlocks htab hsz hP hK hD hE hA hl hret
  subst hsz
  have hown : s.vm.findClass RL = some m.cls := hown
  have hl : lv_has ls 4 [(0, .ref (ad 0 0 0)), (1, .int pl), (2, .int tk)] := hl
  obtain ⟨H, hH⟩ : ∃ H, H = s.heap := ⟨_, rfl⟩
  rw [← hH] at hP ⊢
  have hS : va_S A s.heap H [] := by rw [hH]; exact va_S.rf
  obtain ⟨locs, hlo⟩ : ∃ locs : List Loc, locs = [] := ⟨_, rfl⟩
  rw [← hlo] at hS ⊢
  refine lv_aload_n hx hb dL_tryGo_0 rfl (lv_at hl 0 rfl) ?_
  refine lv_iload_n hx hb dL_tryGo_1 rfl (lv_at hl 1 rfl) ?_
  refine lv_iload_n hx hb dL_tryGo_2 rfl (lv_at hl 2 rfl) ?_
  refine clx_i (vx_runV (As := [.int pl, .int tk]) (rest := []) ⟨hx, hb, hml, hown, hts⟩ (c_X5_branch l hlt D cy ad V pl tk H.size hho hsz2) (cwV 2 hts gL_tryGo_X5_branch rfl rfl rfl (by decide +kernel) ⟨Nat.le_of_ble_eq_true rfl, Nat.le_of_ble_eq_true rfl⟩) ⟨blU, va_recv hK hP (ci := 4) (q0 := 0) rfl rfl, preU hP hD (pmI _) hK hE hS hA⟩ rfl rfl hl.1 rfl (lv_room (Nat.le_of_ble_eq_true rfl)) dL_tryGo_3 ⟨Nat.le_of_ble_eq_true rfl, Nat.le_of_ble_eq_true rfl⟩) hP hD (pmI _) hS hA (fun c9 q9 ce H locs hq hv hcl hP hD hS => ?_) (fun c9 H locs hP hD hS => ?_)
  · have hP : va_P D vwCl (wB cy ad (w_X5_branch V pl tk)) H := vP_perm hP (pmI _).symm
    have hD : va_D A (wB cy ad (w_X5_branch V pl tk)) := vD_perm hD (pmI _).symm
    rcases k_L_tryGo V pl tk with hc | hc
    · exact absurd hc c9
    · rw [hc, exn_1] at hcl
      refine vx_catch (E := "java/lang/IndexOutOfBoundsException") (name := "java/lang/IndexOutOfBoundsException") hown [] ⟨0, 14, 15, 24⟩ [] (htab.trans rfl) (fun z hz => absurd hz List.not_mem_nil) (by decide) (by decide) (hts _ (List.mem_of_getElem? (i := 1) rfl)) (va_Nw.use rfl hE.2.2.2.2.2.2.2.2.2.2.2.2.2.2.2.2.2.2.1) hq hv hcl ?_
      refine lv_astore_n (lv' := [(3, .ref q9), (0, .ref (ad 0 0 0)), (1, .int pl), (2, .int tk)]) hx hb dL_tryGo_15 rfl hl (by decide) rfl (fun ls hl => ?_)
      refine lv_ldc (v := (-9999001)) hx hb hown (hts _ (List.mem_of_getElem? (i := 2) rfl)) dL_tryGo_16 ?_
      exact hret _ H locs _ ls (by unfold r_L_tryGo; rw [if_neg c9]; exact hc.symm) hP hD hS dL_tryGo_18
  · have hP : va_P D vwCl (wB cy ad (w_X5_branch V pl tk)) H := vP_perm hP (pmI _).symm
    have hD : va_D A (wB cy ad (w_X5_branch V pl tk)) := vD_perm hD (pmI _).symm
    refine lv_if_eq (tgt := 13) hx hb dL_tryGo_6 (by decide) (fun c8 => ?_) (fun c8 => ?_)
    · refine lv_iconst (v := 0) hx hb dL_tryGo_13 (by decide) ?_
      exact hret _ H locs _ ls (by unfold r_L_tryGo; rw [if_pos c9, if_pos c8]) hP hD hS dL_tryGo_14
    · refine lv_iconst (v := 1) hx hb dL_tryGo_9 (by decide) ?_
      refine lv_goto (tgt := 14) hx hb dL_tryGo_10 (by decide) ?_
      exact hret _ H locs _ ls (by unfold r_L_tryGo; rw [if_pos c9, if_neg c8]) hP hD hS dL_tryGo_14

theorem k_L_tryScript (V : BV) (n : Int32) (sc : Int64) : (o_X5_runScript V n sc).1 = 0 ∨ (o_X5_runScript V n sc).1 = -9999002 := by
  unfold o_X5_runScript
  repeat' split
  all_goals first
    | exact Or.inl rfl
    | exact Or.inr rfl
def r_L_tryScript (V : BV) (n : Int32) (sc : Int64) : Int32 := if (o_X5_runScript V n sc).1 = 0 then (o_X5_runScript V n sc).2 else (o_X5_runScript V n sc).1
abbrev rL_tryScript : Room := { frames := 7, cells := 1, slots := 6, locals := 169 }
set_option maxHeartbeats 4000000 in
set_option maxRecDepth 100000 in
theorem c_L_tryScript (l : Launch) (hlt : l.stackTraces = false) (D : va_G) (cy : Nat → ClassId) (ad : AD) (V : BV) (n : Int32) (sc : Int64) (sz : Nat) (hsz2 : szok (V.2.1.1 0 0)) : CI l yL_tryScript wsL_tryScript rL_tryScript D cy [.ref (ad 0 0 0), .int n, .long sc] (wB cy ad V) sz (r_L_tryScript V n sc) (wB cy ad (w_X5_runScript V n sc)) 1 6 := by
  refine st_h (cc := cL_tryScript) (maxL := 5) (by decide) rfl (Nat.le_of_ble_eq_true rfl) ?_
  intro pp e s m below meth c A Q ls hx hb hts hown hml hlocks htab hsz hP hK hD hE hA hl hret
  subst hsz
  have hown : s.vm.findClass RL = some m.cls := hown
  have hl : lv_has ls 5 [(0, .ref (ad 0 0 0)), (1, .int n), (2, .long sc)] := hl
  obtain ⟨H, hH⟩ : ∃ H, H = s.heap := ⟨_, rfl⟩
  rw [← hH] at hP ⊢
  have hS : va_S A s.heap H [] := by rw [hH]; exact va_S.rf
  obtain ⟨locs, hlo⟩ : ∃ locs : List Loc, locs = [] := ⟨_, rfl⟩
  rw [← hlo] at hS ⊢
  refine lv_aload_n hx hb dL_tryScript_0 rfl (lv_at hl 0 rfl) ?_
  refine lv_iload_n hx hb dL_tryScript_1 rfl (lv_at hl 1 rfl) ?_
  refine lv_lload_n hx hb dL_tryScript_2 rfl (lv_at hl 2 rfl) ?_
  refine clx_i (vx_runV (As := [.int n, .long sc]) (rest := []) ⟨hx, hb, hml, hown, hts⟩ (c_X5_runScript l hlt D cy ad V n sc H.size hsz2) (cwV 2 hts gL_tryScript_X5_runScript rfl rfl rfl (by decide +kernel) ⟨Nat.le_of_ble_eq_true rfl, Nat.le_of_ble_eq_true rfl⟩) ⟨blU, va_recv hK hP (ci := 4) (q0 := 0) rfl rfl, preU hP hD (pmI _) hK hE hS hA⟩ rfl rfl hl.1 rfl (lv_room (Nat.le_of_ble_eq_true rfl)) dL_tryScript_3 ⟨Nat.le_of_ble_eq_true rfl, Nat.le_of_ble_eq_true rfl⟩) hP hD (pmI _) hS hA (fun c9 q9 ce H locs hq hv hcl hP hD hS => ?_) (fun c9 H locs hP hD hS => ?_)
  · have hP : va_P D vwCl (wB cy ad (w_X5_runScript V n sc)) H := vP_perm hP (pmI _).symm
    have hD : va_D A (wB cy ad (w_X5_runScript V n sc)) := vD_perm hD (pmI _).symm
    rcases k_L_tryScript V n sc with hc | hc
    · exact absurd hc c9
    · rw [hc, exn_2] at hcl
      refine vx_catch (E := "java/lang/IllegalArgumentException") (name := "java/lang/IllegalArgumentException") hown [] ⟨0, 6, 7, 13⟩ [] (htab.trans rfl) (fun z hz => absurd hz List.not_mem_nil) (by decide) (by decide) (hts _ (List.mem_of_getElem? (i := 1) rfl)) (va_Nw.use rfl hE.2.2.2.2.2.2.2.2.2.2.2.2.2.2.2.2.2.2.2.1) hq hv hcl ?_
      refine lv_astore (lv' := [(4, .ref q9), (0, .ref (ad 0 0 0)), (1, .int n), (2, .long sc)]) hx hb dL_tryScript_7 hl (by decide) rfl (fun ls hl => ?_)
      refine lv_ldc (v := (-9999002)) hx hb hown (hts _ (List.mem_of_getElem? (i := 2) rfl)) dL_tryScript_9 ?_
      exact hret _ H locs _ ls (by unfold r_L_tryScript; rw [if_neg c9]; exact hc.symm) hP hD hS dL_tryScript_11
  · have hP : va_P D vwCl (wB cy ad (w_X5_runScript V n sc)) H := vP_perm hP (pmI _).symm
    have hD : va_D A (wB cy ad (w_X5_runScript V n sc)) := vD_perm hD (pmI _).symm
    exact hret _ H locs _ ls (by unfold r_L_tryScript; rw [if_pos c9]) hP hD hS dL_tryScript_6

theorem k_L_trySimulate (V : BV) (seed : Int64) (n : Int32) : (o_X5_simulate V seed n).1 = 0 ∨ (o_X5_simulate V seed n).1 = -9999002 := by
  unfold o_X5_simulate
  repeat' split
  all_goals first
    | exact Or.inl rfl
    | exact Or.inr rfl
def r_L_trySimulate (V : BV) (seed : Int64) (n : Int32) : Int32 := if (o_X5_simulate V seed n).1 = 0 then (o_X5_simulate V seed n).2 else (o_X5_simulate V seed n).1
abbrev rL_trySimulate : Room := { frames := 7, cells := 1, slots := 6, locals := 132 }
set_option maxHeartbeats 4000000 in
set_option maxRecDepth 100000 in
theorem c_L_trySimulate (l : Launch) (hlt : l.stackTraces = false) (D : va_G) (cy : Nat → ClassId) (ad : AD) (V : BV) (seed : Int64) (n : Int32) (sz : Nat) (hsz2 : szok (V.2.1.1 0 0)) : CI l yL_trySimulate wsL_trySimulate rL_trySimulate D cy [.ref (ad 0 0 0), .long seed, .int n] (wB cy ad V) sz (r_L_trySimulate V seed n) (wB cy ad (w_X5_simulate V seed n)) 1 6 := by
  refine st_h (cc := cL_trySimulate) (maxL := 5) (by decide) rfl (Nat.le_of_ble_eq_true rfl) ?_
  intro pp e s m below meth c A Q ls hx hb hts hown hml hlocks htab hsz hP hK hD hE hA hl hret
  subst hsz
  have hown : s.vm.findClass RL = some m.cls := hown
  have hl : lv_has ls 5 [(0, .ref (ad 0 0 0)), (1, .long seed), (3, .int n)] := hl
  obtain ⟨H, hH⟩ : ∃ H, H = s.heap := ⟨_, rfl⟩
  rw [← hH] at hP ⊢
  have hS : va_S A s.heap H [] := by rw [hH]; exact va_S.rf
  obtain ⟨locs, hlo⟩ : ∃ locs : List Loc, locs = [] := ⟨_, rfl⟩
  rw [← hlo] at hS ⊢
  refine lv_aload_n hx hb dL_trySimulate_0 rfl (lv_at hl 0 rfl) ?_
  refine lv_lload_n hx hb dL_trySimulate_1 rfl (lv_at hl 1 rfl) ?_
  refine lv_iload_n hx hb dL_trySimulate_2 rfl (lv_at hl 2 rfl) ?_
  refine clx_i (vx_runV (As := [.long seed, .int n]) (rest := []) ⟨hx, hb, hml, hown, hts⟩ (c_X5_simulate l hlt D cy ad V seed n H.size hsz2) (cwV 2 hts gL_trySimulate_X5_simulate rfl rfl rfl (by decide +kernel) ⟨Nat.le_of_ble_eq_true rfl, Nat.le_of_ble_eq_true rfl⟩) ⟨blU, va_recv hK hP (ci := 4) (q0 := 0) rfl rfl, preU hP hD (pmI _) hK hE hS hA⟩ rfl rfl hl.1 rfl (lv_room (Nat.le_of_ble_eq_true rfl)) dL_trySimulate_3 ⟨Nat.le_of_ble_eq_true rfl, Nat.le_of_ble_eq_true rfl⟩) hP hD (pmI _) hS hA (fun c9 q9 ce H locs hq hv hcl hP hD hS => ?_) (fun c9 H locs hP hD hS => ?_)
  · have hP : va_P D vwCl (wB cy ad (w_X5_simulate V seed n)) H := vP_perm hP (pmI _).symm
    have hD : va_D A (wB cy ad (w_X5_simulate V seed n)) := vD_perm hD (pmI _).symm
    rcases k_L_trySimulate V seed n with hc | hc
    · exact absurd hc c9
    · rw [hc, exn_2] at hcl
      refine vx_catch (E := "java/lang/IllegalArgumentException") (name := "java/lang/IllegalArgumentException") hown [] ⟨0, 6, 7, 13⟩ [] (htab.trans rfl) (fun z hz => absurd hz List.not_mem_nil) (by decide) (by decide) (hts _ (List.mem_of_getElem? (i := 1) rfl)) (va_Nw.use rfl hE.2.2.2.2.2.2.2.2.2.2.2.2.2.2.2.2.2.2.2.1) hq hv hcl ?_
      refine lv_astore (lv' := [(4, .ref q9), (0, .ref (ad 0 0 0)), (1, .long seed), (3, .int n)]) hx hb dL_trySimulate_7 hl (by decide) rfl (fun ls hl => ?_)
      refine lv_ldc (v := (-9999002)) hx hb hown (hts _ (List.mem_of_getElem? (i := 2) rfl)) dL_trySimulate_9 ?_
      exact hret _ H locs _ ls (by unfold r_L_trySimulate; rw [if_neg c9]; exact hc.symm) hP hD hS dL_trySimulate_11
  · have hP : va_P D vwCl (wB cy ad (w_X5_simulate V seed n)) H := vP_perm hP (pmI _).symm
    have hD : va_D A (wB cy ad (w_X5_simulate V seed n)) := vD_perm hD (pmI _).symm
    exact hret _ H locs _ ls (by unfold r_L_trySimulate; rw [if_pos c9]) hP hD hS dL_trySimulate_6

