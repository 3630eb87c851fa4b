/-! ===== BranchNotes: text and what there is ===== -/
theorem ckDesk_of {d : Int32} (h : o_X5_checkDesk d = 0) : d = 0 ∨ d = 1 := by
  unfold o_X5_checkDesk at h
  split at h
  · exact absurd h (by decide)
  · rename_i h1
    exact isDesk_of h1
theorem ckPlace_of {d : Int32} (h : o_X5_checkPlace d = 0) : vp_in d 26 := by
  unfold o_X5_checkPlace at h
  split at h
  · exact absurd h (by decide)
  · rename_i h1
    exact isPlace_of h1
theorem ckNote_of {V : BV} {i : Int32} (h : o_X5_checkNote V i = 0) (hs : szok (V.2.1.1 0 0)) : vp_in i 64 := by
  unfold o_X5_checkNote at h
  split at h
  · exact absurd h (by decide)
  · rename_i h1
    exact isNote_of h1 hs
theorem ckSlot_of {d : Int32} (h : o_X5_checkSlot d = 0) : d = 0 ∨ d = 1 := by
  unfold o_X5_checkSlot at h
  split at h
  · exact absurd h (by decide)
  · rename_i h1
    split at h
    · rename_i h2
      have e0 : ¬ d.toInt < 0 := fun q => h1 ((fa_lt' d 0).mpr q)
      have e1 : d.toInt < 2 := (fa_lt' d 2).mp h2
      have h3 : d.toInt = 0 ∨ d.toInt = 1 := by omega
      rcases h3 with h3 | h3
      · exact Or.inl (Int32.toInt_inj.mp h3)
      · exact Or.inr (Int32.toInt_inj.mp h3)
    · exact absurd h (by decide)

def r_X5_clearText (V : BV)  : Int32 := (V.1 3 0)
def w_X5_clearText (V : BV)  : BV := ((mkT (V.1 0) (V.1 1) (V.1 2) (0 : Int32) (V.1 4 0) (V.1 5 0) (V.1 6 0) (V.1 7 0)), V.2.1, V.2.2.1, V.2.2.2.1, V.2.2.2.2.1, V.2.2.2.2.2.1, V.2.2.2.2.2.2)
abbrev rX5_clearText : Room := { frames := 0, cells := 0, slots := 0, locals := 0 }
theorem inX5_clearText_X4 : ∀ w ∈ u_ws RX4 TX4 8, w ∈ wsX5_clearText := by decide +kernel
theorem inX5_clearText_X5 : ∀ w ∈ u_ws RX5 TX5 6, w ∈ wsX5_clearText := by decide +kernel
set_option maxHeartbeats 4000000 in
set_option maxRecDepth 100000 in
theorem c_X5_clearText (l : Launch) (D : va_G) (cy : Nat → ClassId) (ad : AD) (V : BV)  (sz : Nat)  : CI l yX5_clearText wsX5_clearText rX5_clearText D cy [.ref (ad 0 0 0)] (wB cy ad V) sz (r_X5_clearText V) (wB cy ad (w_X5_clearText V)) 0 0 := by
  refine st_i (ty := .int) (cc := cX5_clearText) (maxL := 2) (by decide) rfl rfl (Nat.le_of_ble_eq_true rfl) ?_
  intro pp e s m below meth c A Q ls hx hb hts hown hml hlocks hsz hP hK hD hE hA hl hret
  subst hsz
  have hown : s.vm.findClass RX5 = some m.cls := hown
  have hl : lv_has ls 2 [(0, .ref (ad 0 0 0))] := hl
  obtain ⟨H, hH⟩ : ∃ H, H = s.heap := ⟨_, rfl⟩
  rw [← hH] at hP ⊢
  have hS : va_S A s.heap H [] := by rw [hH]; exact va_S.rf
  obtain ⟨locs, hlo⟩ : ∃ locs : List Loc, locs = [] := ⟨_, rfl⟩
  rw [← hlo] at hS ⊢
  refine lv_aload_n hx hb dX5_clearText_0 rfl (lv_at hl 0 rfl) ?_
  refine va_get (D := D) (ci := 4) (v := .ref (ad 0 1 0)) (C := RX5) (T := TX5) (N := 6) hx hb hts inX5_clearText_X5 hown hK hP 0 rfl rfl 0 (by decide) (hts _ (List.mem_of_getElem? (i := 1) rfl)) (fun _ h9 => h9) rfl dX5_clearText_1 ?_
  refine va_get (D := D) (ci := 3) (v := .int (V.1 3 0)) (C := RX4) (T := TX4) (N := 8) hx hb hts inX5_clearText_X4 hown hK hP 3 rfl rfl 1 (by decide) (hts _ (List.mem_of_getElem? (i := 2) rfl)) (fun _ h9 => h9) rfl dX5_clearText_4 ?_
  refine lv_istore_n (lv' := [(1, .int (V.1 3 0)), (0, .ref (ad 0 0 0))]) hx hb dX5_clearText_7 rfl hl (by decide) rfl (fun ls hl => ?_)
  refine lv_aload_n hx hb dX5_clearText_8 rfl (lv_at hl 1 rfl) ?_
  refine va_get (D := D) (ci := 4) (v := .ref (ad 0 1 0)) (C := RX5) (T := TX5) (N := 6) hx hb hts inX5_clearText_X5 hown hK hP 0 rfl rfl 0 (by decide) (hts _ (List.mem_of_getElem? (i := 1) rfl)) (fun _ h9 => h9) rfl dX5_clearText_9 ?_
  refine lv_iconst (v := 0) hx hb dX5_clearText_12 (by decide) ?_
  refine va_put (D := D) (ci := 3) (v := .int (0 : Int32)) (ty := .int) (C := RX4) (T := TX4) (N := 8) hx hb hts inX5_clearText_X4 tyX4 tyX4_ok nmX4 hown hK hP hD hS 3 rfl rfl 1 (by decide) (hts _ (List.mem_of_getElem? (i := 2) rfl)) (fun _ h9 => h9) rfl (by decide +kernel) rfl rfl (Nat.le_of_ble_eq_true rfl) dX5_clearText_13 (fun H locs hP hD hS => ?_)
  have hP : va_P D vwCl (wB cy ad ((mkT (V.1 0) (V.1 1) (V.1 2) (0 : Int32) (V.1 4 0) (V.1 5 0) (V.1 6 0) (V.1 7 0)), V.2.1, V.2.2.1, V.2.2.2.1, V.2.2.2.2.1, V.2.2.2.2.2.1, V.2.2.2.2.2.2)) H := hP
  have hD : va_D A (wB cy ad ((mkT (V.1 0) (V.1 1) (V.1 2) (0 : Int32) (V.1 4 0) (V.1 5 0) (V.1 6 0) (V.1 7 0)), V.2.1, V.2.2.1, V.2.2.2.1, V.2.2.2.2.1, V.2.2.2.2.2.1, V.2.2.2.2.2.2)) := hD
  refine lv_iload_n hx hb dX5_clearText_16 rfl (lv_at hl 0 rfl) ?_
  have hr9 : (V.1 3 0) = (r_X5_clearText V) := by rfl
  have hw9 : (w_X5_clearText V) = ((mkT (V.1 0) (V.1 1) (V.1 2) (0 : Int32) (V.1 4 0) (V.1 5 0) (V.1 6 0) (V.1 7 0)), V.2.1, V.2.2.1, V.2.2.2.1, V.2.2.2.2.1, V.2.2.2.2.2.1, V.2.2.2.2.2.2) := by rfl
  exact hret _ H locs _ ls hr9 (by rw [hw9]; exact hP) (by rw [hw9]; exact hD) hS dX5_clearText_17

def r_X5_errorPosition (V : BV)  : Int32 := (r_X4_read V.1)
def w_X5_errorPosition (V : BV)  : BV := ((w_X4_read V.1), V.2.1, V.2.2.1, V.2.2.2.1, V.2.2.2.2.1, V.2.2.2.2.2.1, V.2.2.2.2.2.2)
abbrev rX5_errorPosition : Room := { frames := 4, cells := 0, slots := 0, locals := 88 }
theorem inX5_errorPosition_X5 : ∀ w ∈ u_ws RX5 TX5 6, w ∈ wsX5_errorPosition := by decide +kernel
set_option maxHeartbeats 4000000 in
set_option maxRecDepth 100000 in
theorem c_X5_errorPosition (l : Launch) (D : va_G) (cy : Nat → ClassId) (ad : AD) (V : BV)  (sz : Nat) (hlen : ∃ n, n ≤ 80 ∧ V.1 3 0 = nI n) (hg : ∃ g, g < 26 ∧ V.1 6 0 = nI g) : CI l yX5_errorPosition wsX5_errorPosition rX5_errorPosition D cy [.ref (ad 0 0 0)] (wB cy ad V) sz (r_X5_errorPosition V) (wB cy ad (w_X5_errorPosition V)) 0 0 := by
  refine st_i (ty := .int) (cc := cX5_errorPosition) (maxL := 1) (by decide) rfl rfl (Nat.le_of_ble_eq_true rfl) ?_
  intro pp e s m below meth c A Q ls hx hb hts hown hml hlocks hsz hP hK hD hE hA hl hret
  subst hsz
  have hown : s.vm.findClass RX5 = some m.cls := hown
  have hl : lv_has ls 1 [(0, .ref (ad 0 0 0))] := hl
  obtain ⟨H, hH⟩ : ∃ H, H = s.heap := ⟨_, rfl⟩
  rw [← hH] at hP ⊢
  have hS : va_S A s.heap H [] := by rw [hH]; exact va_S.rf
  obtain ⟨locs, hlo⟩ : ∃ locs : List Loc, locs = [] := ⟨_, rfl⟩
  rw [← hlo] at hS ⊢
  refine lv_aload_n hx hb dX5_errorPosition_0 rfl (lv_at hl 0 rfl) ?_
  refine va_get (D := D) (ci := 4) (v := .ref (ad 0 1 0)) (C := RX5) (T := TX5) (N := 6) hx hb hts inX5_errorPosition_X5 hown hK hP 0 rfl rfl 0 (by decide) (hts _ (List.mem_of_getElem? (i := 1) rfl)) (fun _ h9 => h9) rfl dX5_errorPosition_1 ?_
  refine cl_i (va_runV (As := []) (rest := []) ⟨hx, hb, hml, hown, hts⟩ (c_X4_read l D cy (ad 0 1) V.1 H.size hlen hg) (cwV 0 hts gX5_errorPosition_X4_read rfl rfl rfl (by decide +kernel) ⟨Nat.le_of_ble_eq_true rfl, Nat.le_of_ble_eq_true rfl⟩) ⟨blU, va_recv hK hP (ci := 3) (q0 := 3) rfl rfl, preU hP hD (pmB (bB cy ad V) 1 _ (cT cy (ad 0 1) (w_X4_read V.1)) rfl).1 hK hE hS hA⟩ rfl rfl hl.1 rfl (lv_room (Nat.le_of_ble_eq_true rfl)) dX5_errorPosition_4 ⟨Nat.le_of_ble_eq_true rfl, Nat.le_of_ble_eq_true rfl⟩) hP hD (pmB (bB cy ad V) 1 _ (cT cy (ad 0 1) (w_X4_read V.1)) rfl).1 hS hA (fun H locs hP hD hS => ?_)
  have hP : va_P D vwCl (wB cy ad ((w_X4_read V.1), V.2.1, V.2.2.1, V.2.2.2.1, V.2.2.2.2.1, V.2.2.2.2.2.1, V.2.2.2.2.2.2)) H := vP_perm hP (pmB (bB cy ad V) 1 _ (cT cy (ad 0 1) (w_X4_read V.1)) rfl).2
  have hD : va_D A (wB cy ad ((w_X4_read V.1), V.2.1, V.2.2.1, V.2.2.2.1, V.2.2.2.2.1, V.2.2.2.2.2.1, V.2.2.2.2.2.2)) := vD_perm hD (pmB (bB cy ad V) 1 _ (cT cy (ad 0 1) (w_X4_read V.1)) rfl).2
  have hr9 : (r_X4_read V.1) = (r_X5_errorPosition V) := by rfl
  have hw9 : (w_X5_errorPosition V) = ((w_X4_read V.1), V.2.1, V.2.2.1, V.2.2.2.1, V.2.2.2.2.1, V.2.2.2.2.2.1, V.2.2.2.2.2.2) := by rfl
  exact hret _ H locs _ ls hr9 (by rw [hw9]; exact hP) (by rw [hw9]; exact hD) hS dX5_errorPosition_7

def r_X5_branches (V : BV)  : Int32 := (if (r_X4_read V.1) = (-99999 : Int32) then ((w_X4_read V.1) 4 0) else (-99999 : Int32))
def w_X5_branches (V : BV)  : BV := ((w_X4_read V.1), V.2.1, V.2.2.1, V.2.2.2.1, V.2.2.2.2.1, V.2.2.2.2.2.1, V.2.2.2.2.2.2)
abbrev rX5_branches : Room := { frames := 4, cells := 0, slots := 0, locals := 88 }
theorem inX5_branches_X4 : ∀ w ∈ u_ws RX4 TX4 8, w ∈ wsX5_branches := by decide +kernel
theorem inX5_branches_X5 : ∀ w ∈ u_ws RX5 TX5 6, w ∈ wsX5_branches := by decide +kernel
set_option maxHeartbeats 4000000 in
set_option maxRecDepth 100000 in
theorem c_X5_branches (l : Launch) (D : va_G) (cy : Nat → ClassId) (ad : AD) (V : BV)  (sz : Nat) (hlen : ∃ n, n ≤ 80 ∧ V.1 3 0 = nI n) (hg : ∃ g, g < 26 ∧ V.1 6 0 = nI g) : CI l yX5_branches wsX5_branches rX5_branches D cy [.ref (ad 0 0 0)] (wB cy ad V) sz (r_X5_branches V) (wB cy ad (w_X5_branches V)) 0 0 := by
  refine st_i (ty := .int) (cc := cX5_branches) (maxL := 1) (by decide) rfl rfl (Nat.le_of_ble_eq_true rfl) ?_
  intro pp e s m below meth c A Q ls hx hb hts hown hml hlocks hsz hP hK hD hE hA hl hret
  subst hsz
  have hown : s.vm.findClass RX5 = some m.cls := hown
  have hl : lv_has ls 1 [(0, .ref (ad 0 0 0))] := hl
  obtain ⟨H, hH⟩ : ∃ H, H = s.heap := ⟨_, rfl⟩
  rw [← hH] at hP ⊢
  have hS : va_S A s.heap H [] := by rw [hH]; exact va_S.rf
  obtain ⟨locs, hlo⟩ : ∃ locs : List Loc, locs = [] := ⟨_, rfl⟩
  rw [← hlo] at hS ⊢
  refine lv_aload_n hx hb dX5_branches_0 rfl (lv_at hl 0 rfl) ?_
  refine va_get (D := D) (ci := 4) (v := .ref (ad 0 1 0)) (C := RX5) (T := TX5) (N := 6) hx hb hts inX5_branches_X5 hown hK hP 0 rfl rfl 0 (by decide) (hts _ (List.mem_of_getElem? (i := 1) rfl)) (fun _ h9 => h9) rfl dX5_branches_1 ?_
  refine cl_i (va_runV (As := []) (rest := []) ⟨hx, hb, hml, hown, hts⟩ (c_X4_read l D cy (ad 0 1) V.1 H.size hlen hg) (cwV 0 hts gX5_branches_X4_read rfl rfl rfl (by decide +kernel) ⟨Nat.le_of_ble_eq_true rfl, Nat.le_of_ble_eq_true rfl⟩) ⟨blU, va_recv hK hP (ci := 3) (q0 := 3) rfl rfl, preU hP hD (pmB (bB cy ad V) 1 _ (cT cy (ad 0 1) (w_X4_read V.1)) rfl).1 hK hE hS hA⟩ rfl rfl hl.1 rfl (lv_room (Nat.le_of_ble_eq_true rfl)) dX5_branches_4 ⟨Nat.le_of_ble_eq_true rfl, Nat.le_of_ble_eq_true rfl⟩) hP hD (pmB (bB cy ad V) 1 _ (cT cy (ad 0 1) (w_X4_read V.1)) rfl).1 hS hA (fun H locs hP hD hS => ?_)
  have hP : va_P D vwCl (wB cy ad ((w_X4_read V.1), V.2.1, V.2.2.1, V.2.2.2.1, V.2.2.2.2.1, V.2.2.2.2.2.1, V.2.2.2.2.2.2)) H := vP_perm hP (pmB (bB cy ad V) 1 _ (cT cy (ad 0 1) (w_X4_read V.1)) rfl).2
  have hD : va_D A (wB cy ad ((w_X4_read V.1), V.2.1, V.2.2.1, V.2.2.2.1, V.2.2.2.2.1, V.2.2.2.2.2.1, V.2.2.2.2.2.2)) := vD_perm hD (pmB (bB cy ad V) 1 _ (cT cy (ad 0 1) (w_X4_read V.1)) rfl).2
  refine lv_ldc (v := (-99999)) hx hb hown (hts _ (List.mem_of_getElem? (i := 2) rfl)) dX5_branches_7 ?_
  have J24_2 : ∀ (z_2 : Int32) (hz_2 : z_2 = (if (r_X4_read V.1) = (-99999 : Int32) then ((w_X4_read V.1) 4 0) else (-99999 : Int32))) (H : Heap) (locs : List Loc), va_P D vwCl (wB cy ad ((w_X4_read V.1), V.2.1, V.2.2.1, V.2.2.2.1, V.2.2.2.2.1, V.2.2.2.2.2.1, V.2.2.2.2.2.2)) H → va_D A (wB cy ad ((w_X4_read V.1), V.2.1, V.2.2.1, V.2.2.2.1, V.2.2.2.2.1, V.2.2.2.2.2.1, V.2.2.2.2.2.2)) → va_S A s.heap H locs → ∀ ls : Array Slot, lv_has ls 1 [(0, .ref (ad 0 0 0))] → W pp l e rX5_branches s m ([.ref (ad 0 0 0)] : List Value).toArray below meth c H locs 0 0 Q (F0 m 24 ls [.int z_2]) := by
    intro z_2 hz_2 H locs hP hD hS ls hl
    subst hz_2
    have hr9 : (if (r_X4_read V.1) = (-99999 : Int32) then ((w_X4_read V.1) 4 0) else (-99999 : Int32)) = (r_X5_branches V) := by rfl
    have hw9 : (w_X5_branches V) = ((w_X4_read V.1), V.2.1, V.2.2.1, V.2.2.2.1, V.2.2.2.2.1, V.2.2.2.2.2.1, V.2.2.2.2.2.2) := by rfl
    exact hret _ H locs _ ls hr9 (by rw [hw9]; exact hP) (by rw [hw9]; exact hD) hS dX5_branches_24
  refine lv_icmp_ne (tgt := 22) hx hb dX5_branches_9 (by decide) (fun c_1 => ?_) (fun c_1 => ?_)
  · refine lv_ldc (v := (-99999)) hx hb hown (hts _ (List.mem_of_getElem? (i := 2) rfl)) dX5_branches_22 ?_
    exact J24_2 (-99999 : Int32) (by simp only [if_neg c_1, if_true, if_false]) H locs hP hD hS ls (lv_sub hl [0] rfl)
  · refine lv_aload_n hx hb dX5_branches_12 rfl (lv_at hl 0 rfl) ?_
    refine va_get (D := D) (ci := 4) (v := .ref (ad 0 1 0)) (C := RX5) (T := TX5) (N := 6) hx hb hts inX5_branches_X5 hown hK hP 0 rfl rfl 0 (by decide) (hts _ (List.mem_of_getElem? (i := 1) rfl)) (fun _ h9 => h9) rfl dX5_branches_13 ?_
    refine va_get (D := D) (ci := 3) (v := .int ((w_X4_read V.1) 4 0)) (C := RX4) (T := TX4) (N := 8) hx hb hts inX5_branches_X4 hown hK hP 3 rfl rfl 3 (by decide) (hts _ (List.mem_of_getElem? (i := 3) rfl)) (fun _ h9 => h9) rfl dX5_branches_16 ?_
    refine lv_goto (tgt := 24) hx hb dX5_branches_19 (by decide) ?_
    exact J24_2 ((w_X4_read V.1) 4 0) (by simp only [if_pos c_1, if_true, if_false]) H locs hP hD hS ls (lv_sub hl [0] rfl)

def o_X5_append (V : BV) (ch : Int32) : Int32 × Int32 := (if ch < 0 then ((-9999002 : Int32), (0 : Int32)) else (if ch ≤ (255 : Int32) then (if (r_X4_add V.1 ch) = 0 then ((-9999003 : Int32), (0 : Int32)) else ((0 : Int32), ((w_X4_add V.1 ch) 3 0))) else ((-9999002 : Int32), (0 : Int32))))
def w_X5_append (V : BV) (ch : Int32) : BV := (if ch < 0 then V else (if ch ≤ (255 : Int32) then (if (r_X4_add V.1 ch) = 0 then ((w_X4_add V.1 ch), V.2.1, V.2.2.1, V.2.2.2.1, V.2.2.2.2.1, V.2.2.2.2.2.1, V.2.2.2.2.2.2) else ((w_X4_add V.1 ch), V.2.1, V.2.2.1, V.2.2.2.1, V.2.2.2.2.1, V.2.2.2.2.2.1, V.2.2.2.2.2.2)) else V))
abbrev rX5_append : Room := { frames := 6, cells := 1, slots := 6, locals := 90 }
theorem inX5_append_X4 : ∀ w ∈ u_ws RX4 TX4 8, w ∈ wsX5_append := by decide +kernel
theorem inX5_append_X5 : ∀ w ∈ u_ws RX5 TX5 6, w ∈ wsX5_append := by decide +kernel
set_option maxHeartbeats 4000000 in
set_option maxRecDepth 100000 in
theorem c_X5_append (l : Launch) (hlt : l.stackTraces = false) (D : va_G) (cy : Nat → ClassId) (ad : AD) (V : BV) (ch : Int32) (sz : Nat) (hlen : ∃ n, n ≤ 80 ∧ V.1 3 0 = nI n) : CX l yX5_append wsX5_append rX5_append D cy [.ref (ad 0 0 0), .int ch] (wB cy ad V) sz (o_X5_append V ch) (wB cy ad (w_X5_append V ch)) 1 6 := by
  refine stx_i (ty := .int) (cc := cX5_append) (maxL := 2) (by decide) rfl rfl (Nat.le_of_ble_eq_true rfl) ?_
  intro pp e s m below meth c A Q ls hx hb hts hown hml hlocks htab hsz hP hK hD hE hA hl hAe hQ hret hout
  subst hsz
  have hown : s.vm.findClass RX5 = some m.cls := hown
  have hl : lv_has ls 2 [(0, .ref (ad 0 0 0)), (1, .int ch)] := hl
  obtain ⟨H, hH⟩ : ∃ H, H = s.heap := ⟨_, rfl⟩
  rw [← hH] at hP ⊢
  have hS : va_S A s.heap H [] := by rw [hH]; exact va_S.rf
  obtain ⟨locs, hlo⟩ : ∃ locs : List Loc, locs = [] := ⟨_, rfl⟩
  rw [← hlo] at hS ⊢
  refine lv_iload_n hx hb dX5_append_0 rfl (lv_at hl 1 rfl) ?_
  refine lv_if_lt (tgt := 11) hx hb dX5_append_1 (by decide) (fun c_1 => ?_) (fun c_1 => ?_)
  · have ho9 : (o_X5_append V ch).1 = (-9999002 : Int32) := by unfold o_X5_append; simp only [if_pos c_1, if_true, if_false]
    have hw9 : (w_X5_append V ch) = V := by unfold w_X5_append; simp only [if_pos c_1, if_true, if_false]
    rw [hQ]
    exact thr_2 (text := "no character code") hx hb hlt hown (hts _ (List.mem_of_getElem? (i := 1) rfl)) (hts _ (List.mem_of_getElem? (i := 2) rfl)) (fun w hw => hts w (List.mem_cons_of_mem _ (List.mem_append_left _ (List.mem_append_right _ hw)))) (by decide +kernel) hE hS (hl.1.trans hml.symm) dX5_append_11 dX5_append_14 dX5_append_15 dX5_append_17 dX5_append_20 htab (Nat.le_of_ble_eq_true rfl) (Nat.le_of_ble_eq_true rfl) (Nat.le_of_ble_eq_true rfl) (Nat.le_of_ble_eq_true rfl) hlocks hAe ho9 (by rw [hw9]; exact hP) (by rw [hw9]; exact hD) (Nat.le_of_ble_eq_true rfl) (Nat.le_of_ble_eq_true rfl)
  · refine lv_iload_n hx hb dX5_append_4 rfl (lv_at hl 1 rfl) ?_
    refine lv_sipush (v := 255) hx hb dX5_append_5 (by decide) ?_
    refine lv_icmp_le (tgt := 21) hx hb dX5_append_8 (by decide) (fun c_2 => ?_) (fun c_2 => ?_)
    · refine lv_aload_n hx hb dX5_append_21 rfl (lv_at hl 0 rfl) ?_
      refine va_get (D := D) (ci := 4) (v := .ref (ad 0 1 0)) (C := RX5) (T := TX5) (N := 6) hx hb hts inX5_append_X5 hown hK hP 0 rfl rfl 0 (by decide) (hts _ (List.mem_of_getElem? (i := 5) rfl)) (fun _ h9 => h9) rfl dX5_append_22 ?_
      refine lv_iload_n hx hb dX5_append_25 rfl (lv_at hl 1 rfl) ?_
      refine cl_i (va_runV (As := [.int ch]) (rest := []) ⟨hx, hb, hml, hown, hts⟩ (c_X4_add l D cy (ad 0 1) V.1 ch H.size (by obtain ⟨n, h1, h2⟩ := hlen; rw [h2]; exact nI_pos (by omega))) (cwV 1 hts gX5_append_X4_add rfl rfl rfl (by decide +kernel) ⟨Nat.le_of_ble_eq_true rfl, Nat.le_of_ble_eq_true rfl⟩) ⟨blU, va_recv hK hP (ci := 3) (q0 := 3) rfl rfl, preU hP hD (pmB (bB cy ad V) 1 _ (cT cy (ad 0 1) (w_X4_add V.1 ch)) rfl).1 hK hE hS hA⟩ rfl rfl hl.1 rfl (lv_room (Nat.le_of_ble_eq_true rfl)) dX5_append_26 ⟨Nat.le_of_ble_eq_true rfl, Nat.le_of_ble_eq_true rfl⟩) hP hD (pmB (bB cy ad V) 1 _ (cT cy (ad 0 1) (w_X4_add V.1 ch)) rfl).1 hS hA (fun H locs hP hD hS => ?_)
      have hP : va_P D vwCl (wB cy ad ((w_X4_add V.1 ch), V.2.1, V.2.2.1, V.2.2.2.1, V.2.2.2.2.1, V.2.2.2.2.2.1, V.2.2.2.2.2.2)) H := vP_perm hP (pmB (bB cy ad V) 1 _ (cT cy (ad 0 1) (w_X4_add V.1 ch)) rfl).2
      have hD : va_D A (wB cy ad ((w_X4_add V.1 ch), V.2.1, V.2.2.1, V.2.2.2.1, V.2.2.2.2.1, V.2.2.2.2.2.1, V.2.2.2.2.2.2)) := vD_perm hD (pmB (bB cy ad V) 1 _ (cT cy (ad 0 1) (w_X4_add V.1 ch)) rfl).2
      refine lv_if_ne (tgt := 42) hx hb dX5_append_29 (by decide) (fun c_3 => ?_) (fun c_3 => ?_)
      · refine lv_aload_n hx hb dX5_append_42 rfl (lv_at hl 0 rfl) ?_
        refine va_get (D := D) (ci := 4) (v := .ref (ad 0 1 0)) (C := RX5) (T := TX5) (N := 6) hx hb hts inX5_append_X5 hown hK hP 0 rfl rfl 0 (by decide) (hts _ (List.mem_of_getElem? (i := 5) rfl)) (fun _ h9 => h9) rfl dX5_append_43 ?_
        refine va_get (D := D) (ci := 3) (v := .int ((w_X4_add V.1 ch) 3 0)) (C := RX4) (T := TX4) (N := 8) hx hb hts inX5_append_X4 hown hK hP 3 rfl rfl 1 (by decide) (hts _ (List.mem_of_getElem? (i := 6) rfl)) (fun _ h9 => h9) rfl dX5_append_46 ?_
        refine W.widen (k := 1) (n := 6) (Nat.le_of_ble_eq_true rfl) (Nat.le_of_ble_eq_true rfl) ?_
        have hr9 : (o_X5_append V ch) = ((0 : Int32), ((w_X4_add V.1 ch) 3 0)) := by unfold o_X5_append; simp only [if_neg c_1, if_pos c_2, if_neg c_3, if_true, if_false]
        have hw9 : (w_X5_append V ch) = ((w_X4_add V.1 ch), V.2.1, V.2.2.1, V.2.2.2.1, V.2.2.2.2.1, V.2.2.2.2.2.1, V.2.2.2.2.2.2) := by unfold w_X5_append; simp only [if_neg c_1, if_pos c_2, if_neg c_3, if_true, if_false]
        exact hret _ H locs _ ls hr9 (by rw [hw9]; exact hP) (by rw [hw9]; exact hD) hS dX5_append_49
      · have ho9 : (o_X5_append V ch).1 = (-9999003 : Int32) := by unfold o_X5_append; simp only [if_neg c_1, if_pos c_2, if_pos c_3, if_true, if_false]
        have hw9 : (w_X5_append V ch) = ((w_X4_add V.1 ch), V.2.1, V.2.2.1, V.2.2.2.1, V.2.2.2.2.1, V.2.2.2.2.2.1, V.2.2.2.2.2.2) := by unfold w_X5_append; simp only [if_neg c_1, if_pos c_2, if_pos c_3, if_true, if_false]
        rw [hQ]
        exact thr_3 (text := "the text is full") hx hb hlt hown (hts _ (List.mem_of_getElem? (i := 3) rfl)) (hts _ (List.mem_of_getElem? (i := 4) rfl)) (fun w hw => hts w (List.mem_cons_of_mem _ (List.mem_append_right _ hw))) (by decide +kernel) hE hS (hl.1.trans hml.symm) dX5_append_32 dX5_append_35 dX5_append_36 dX5_append_38 dX5_append_41 htab (Nat.le_of_ble_eq_true rfl) (Nat.le_of_ble_eq_true rfl) (Nat.le_of_ble_eq_true rfl) (Nat.le_of_ble_eq_true rfl) hlocks hAe ho9 (by rw [hw9]; exact hP) (by rw [hw9]; exact hD) (Nat.le_of_ble_eq_true rfl) (Nat.le_of_ble_eq_true rfl)
    · have ho9 : (o_X5_append V ch).1 = (-9999002 : Int32) := by unfold o_X5_append; simp only [if_neg c_1, if_neg c_2, if_true, if_false]
      have hw9 : (w_X5_append V ch) = V := by unfold w_X5_append; simp only [if_neg c_1, if_neg c_2, if_true, if_false]
      rw [hQ]
      exact thr_2 (text := "no character code") hx hb hlt hown (hts _ (List.mem_of_getElem? (i := 1) rfl)) (hts _ (List.mem_of_getElem? (i := 2) rfl)) (fun w hw => hts w (List.mem_cons_of_mem _ (List.mem_append_left _ (List.mem_append_right _ hw)))) (by decide +kernel) hE hS (hl.1.trans hml.symm) dX5_append_11 dX5_append_14 dX5_append_15 dX5_append_17 dX5_append_20 htab (Nat.le_of_ble_eq_true rfl) (Nat.le_of_ble_eq_true rfl) (Nat.le_of_ble_eq_true rfl) (Nat.le_of_ble_eq_true rfl) hlocks hAe ho9 (by rw [hw9]; exact hP) (by rw [hw9]; exact hD) (Nat.le_of_ble_eq_true rfl) (Nat.le_of_ble_eq_true rfl)

def o_X5_about (V : BV) (what : Int32) : Int32 × Int32 := (if what = 0 then ((0 : Int32), (V.2.1.1 5 0)) else (if what = 1 then ((0 : Int32), (V.2.1.1 6 0)) else (if what = 2 then ((0 : Int32), (V.2.1.1 7 0)) else (if what = 3 then ((0 : Int32), (V.2.1.2.1 6 0)) else (if what = 4 then ((0 : Int32), (V.2.1.2.2 6 0)) else (if what = 5 then ((0 : Int32), (V.2.1.1 8 0)) else (if what = 6 then ((0 : Int32), (V.2.1.1 9 0)) else (if what = 7 then ((0 : Int32), ((V.2.1.1 0) 0)) else (if what = 8 then ((0 : Int32), ((V.2.1.1 0) 1)) else (if what = 9 then ((0 : Int32), ((V.2.1.1 0) 2)) else ((-9999002 : Int32), (0 : Int32))))))))))))
abbrev rX5_about : Room := { frames := 6, cells := 1, slots := 6, locals := 90 }
theorem inX5_about_X0 : ∀ w ∈ u_ws RX0 TX0 8, w ∈ wsX5_about := by decide +kernel
theorem inX5_about_X3 : ∀ w ∈ u_ws RX3 TX3 11, w ∈ wsX5_about := by decide +kernel
theorem inX5_about_X5 : ∀ w ∈ u_ws RX5 TX5 6, w ∈ wsX5_about := by decide +kernel
set_option maxHeartbeats 4000000 in
set_option maxRecDepth 100000 in
theorem c_X5_about (l : Launch) (hlt : l.stackTraces = false) (D : va_G) (cy : Nat → ClassId) (ad : AD) (V : BV) (what : Int32) (sz : Nat)  : CX l yX5_about wsX5_about rX5_about D cy [.ref (ad 0 0 0), .int what] (wB cy ad V) sz (o_X5_about V what) (wB cy ad V) 1 6 := by
  refine stx_i (ty := .int) (cc := cX5_about) (maxL := 2) (by decide) rfl rfl (Nat.le_of_ble_eq_true rfl) ?_
  intro pp e s m below meth c A Q ls hx hb hts hown hml hlocks htab hsz hP hK hD hE hA hl hAe hQ hret hout
  subst hsz
  have hown : s.vm.findClass RX5 = some m.cls := hown
  have hl : lv_has ls 2 [(0, .ref (ad 0 0 0)), (1, .int what)] := hl
  obtain ⟨H, hH⟩ : ∃ H, H = s.heap := ⟨_, rfl⟩
  rw [← hH] at hP ⊢
  have hS : va_S A s.heap H [] := by rw [hH]; exact va_S.rf
  obtain ⟨locs, hlo⟩ : ∃ locs : List Loc, locs = [] := ⟨_, rfl⟩
  rw [← hlo] at hS ⊢
  refine lv_iload_n hx hb dX5_about_0 rfl (lv_at hl 1 rfl) ?_
  by_cases c_1 : what = 0
  · refine lv_tableIn (tgt := 56) (off := 55) hx hb dX5_about_1 (by rw [c_1]; decide) (by rw [c_1]; decide) (by rw [c_1]; rfl) (by decide) ?_
    refine lv_aload_n hx hb dX5_about_56 rfl (lv_at hl 0 rfl) ?_
    refine va_get (D := D) (ci := 4) (v := .ref (ad 1 0 0)) (C := RX5) (T := TX5) (N := 6) hx hb hts inX5_about_X5 hown hK hP 0 rfl rfl 1 (by decide) (hts _ (List.mem_of_getElem? (i := 3) rfl)) (fun _ h9 => h9) rfl dX5_about_57 ?_
    refine va_get (D := D) (ci := 2) (v := .int (V.2.1.1 5 0)) (C := RX3) (T := TX3) (N := 11) hx hb hts inX5_about_X3 hown hK hP 7 rfl rfl 6 (by decide) (hts _ (List.mem_of_getElem? (i := 4) rfl)) (fun _ h9 => h9) rfl dX5_about_60 ?_
    refine W.widen (k := 1) (n := 6) (Nat.le_of_ble_eq_true rfl) (Nat.le_of_ble_eq_true rfl) ?_
    have hr9 : (o_X5_about V what) = ((0 : Int32), (V.2.1.1 5 0)) := by unfold o_X5_about; simp only [if_pos c_1, if_true, if_false]
    exact hret _ H locs _ ls hr9 hP hD hS dX5_about_63
  · by_cases c_2 : what = 1
    · refine lv_tableIn (tgt := 64) (off := 63) hx hb dX5_about_1 (by rw [c_2]; decide) (by rw [c_2]; decide) (by rw [c_2]; rfl) (by decide) ?_
      refine lv_aload_n hx hb dX5_about_64 rfl (lv_at hl 0 rfl) ?_
      refine va_get (D := D) (ci := 4) (v := .ref (ad 1 0 0)) (C := RX5) (T := TX5) (N := 6) hx hb hts inX5_about_X5 hown hK hP 0 rfl rfl 1 (by decide) (hts _ (List.mem_of_getElem? (i := 3) rfl)) (fun _ h9 => h9) rfl dX5_about_65 ?_
      refine va_get (D := D) (ci := 2) (v := .int (V.2.1.1 6 0)) (C := RX3) (T := TX3) (N := 11) hx hb hts inX5_about_X3 hown hK hP 7 rfl rfl 7 (by decide) (hts _ (List.mem_of_getElem? (i := 5) rfl)) (fun _ h9 => h9) rfl dX5_about_68 ?_
      refine W.widen (k := 1) (n := 6) (Nat.le_of_ble_eq_true rfl) (Nat.le_of_ble_eq_true rfl) ?_
      have hr9 : (o_X5_about V what) = ((0 : Int32), (V.2.1.1 6 0)) := by unfold o_X5_about; simp only [if_neg c_1, if_pos c_2, if_true, if_false]
      exact hret _ H locs _ ls hr9 hP hD hS dX5_about_71
    · by_cases c_3 : what = 2
      · refine lv_tableIn (tgt := 72) (off := 71) hx hb dX5_about_1 (by rw [c_3]; decide) (by rw [c_3]; decide) (by rw [c_3]; rfl) (by decide) ?_
        refine lv_aload_n hx hb dX5_about_72 rfl (lv_at hl 0 rfl) ?_
        refine va_get (D := D) (ci := 4) (v := .ref (ad 1 0 0)) (C := RX5) (T := TX5) (N := 6) hx hb hts inX5_about_X5 hown hK hP 0 rfl rfl 1 (by decide) (hts _ (List.mem_of_getElem? (i := 3) rfl)) (fun _ h9 => h9) rfl dX5_about_73 ?_
        refine va_get (D := D) (ci := 2) (v := .int (V.2.1.1 7 0)) (C := RX3) (T := TX3) (N := 11) hx hb hts inX5_about_X3 hown hK hP 7 rfl rfl 8 (by decide) (hts _ (List.mem_of_getElem? (i := 6) rfl)) (fun _ h9 => h9) rfl dX5_about_76 ?_
        refine W.widen (k := 1) (n := 6) (Nat.le_of_ble_eq_true rfl) (Nat.le_of_ble_eq_true rfl) ?_
        have hr9 : (o_X5_about V what) = ((0 : Int32), (V.2.1.1 7 0)) := by unfold o_X5_about; simp only [if_neg c_1, if_neg c_2, if_pos c_3, if_true, if_false]
        exact hret _ H locs _ ls hr9 hP hD hS dX5_about_79
      · by_cases c_4 : what = 3
        · refine lv_tableIn (tgt := 80) (off := 79) hx hb dX5_about_1 (by rw [c_4]; decide) (by rw [c_4]; decide) (by rw [c_4]; rfl) (by decide) ?_
          refine lv_aload_n hx hb dX5_about_80 rfl (lv_at hl 0 rfl) ?_
          refine va_get (D := D) (ci := 4) (v := .ref (ad 1 0 0)) (C := RX5) (T := TX5) (N := 6) hx hb hts inX5_about_X5 hown hK hP 0 rfl rfl 1 (by decide) (hts _ (List.mem_of_getElem? (i := 3) rfl)) (fun _ h9 => h9) rfl dX5_about_81 ?_
          refine va_get (D := D) (ci := 2) (v := .ref (((ad 1) 0) 2)) (C := RX3) (T := TX3) (N := 11) hx hb hts inX5_about_X3 hown hK hP 7 rfl rfl 1 (by decide) (hts _ (List.mem_of_getElem? (i := 7) rfl)) (fun _ h9 => h9) rfl dX5_about_84 ?_
          refine lv_iconst (v := 0) hx hb dX5_about_87 (by decide) ?_
          refine x_aldq (v := .ref (((ad 1) 1) 0)) hx hb hK hP 9 2 rfl rfl (vp_c (by decide)) rfl dX5_about_88 ?_
          refine va_get (D := D) (ci := 0) (v := .int (V.2.1.2.1 6 0)) (C := RX0) (T := TX0) (N := 8) hx hb hts inX5_about_X0 hown hK hP 14 rfl rfl 6 (by decide) (hts _ (List.mem_of_getElem? (i := 8) rfl)) (fun _ h9 => h9) rfl dX5_about_89 ?_
          refine W.widen (k := 1) (n := 6) (Nat.le_of_ble_eq_true rfl) (Nat.le_of_ble_eq_true rfl) ?_
          have hr9 : (o_X5_about V what) = ((0 : Int32), (V.2.1.2.1 6 0)) := by unfold o_X5_about; simp only [if_neg c_1, if_neg c_2, if_neg c_3, if_pos c_4, if_true, if_false]
          exact hret _ H locs _ ls hr9 hP hD hS dX5_about_92
        · by_cases c_5 : what = 4
          · refine lv_tableIn (tgt := 93) (off := 92) hx hb dX5_about_1 (by rw [c_5]; decide) (by rw [c_5]; decide) (by rw [c_5]; rfl) (by decide) ?_
            refine lv_aload_n hx hb dX5_about_93 rfl (lv_at hl 0 rfl) ?_
            refine va_get (D := D) (ci := 4) (v := .ref (ad 1 0 0)) (C := RX5) (T := TX5) (N := 6) hx hb hts inX5_about_X5 hown hK hP 0 rfl rfl 1 (by decide) (hts _ (List.mem_of_getElem? (i := 3) rfl)) (fun _ h9 => h9) rfl dX5_about_94 ?_
            refine va_get (D := D) (ci := 2) (v := .ref (((ad 1) 0) 2)) (C := RX3) (T := TX3) (N := 11) hx hb hts inX5_about_X3 hown hK hP 7 rfl rfl 1 (by decide) (hts _ (List.mem_of_getElem? (i := 7) rfl)) (fun _ h9 => h9) rfl dX5_about_97 ?_
            refine lv_iconst (v := 1) hx hb dX5_about_100 (by decide) ?_
            refine x_aldq (v := .ref (((ad 1) 2) 0)) hx hb hK hP 9 2 rfl rfl (vp_c (by decide)) rfl dX5_about_101 ?_
            refine va_get (D := D) (ci := 0) (v := .int (V.2.1.2.2 6 0)) (C := RX0) (T := TX0) (N := 8) hx hb hts inX5_about_X0 hown hK hP 21 rfl rfl 6 (by decide) (hts _ (List.mem_of_getElem? (i := 8) rfl)) (fun _ h9 => h9) rfl dX5_about_102 ?_
            refine W.widen (k := 1) (n := 6) (Nat.le_of_ble_eq_true rfl) (Nat.le_of_ble_eq_true rfl) ?_
            have hr9 : (o_X5_about V what) = ((0 : Int32), (V.2.1.2.2 6 0)) := by unfold o_X5_about; simp only [if_neg c_1, if_neg c_2, if_neg c_3, if_neg c_4, if_pos c_5, if_true, if_false]
            exact hret _ H locs _ ls hr9 hP hD hS dX5_about_105
          · by_cases c_6 : what = 5
            · refine lv_tableIn (tgt := 106) (off := 105) hx hb dX5_about_1 (by rw [c_6]; decide) (by rw [c_6]; decide) (by rw [c_6]; rfl) (by decide) ?_
              refine lv_aload_n hx hb dX5_about_106 rfl (lv_at hl 0 rfl) ?_
              refine va_get (D := D) (ci := 4) (v := .ref (ad 1 0 0)) (C := RX5) (T := TX5) (N := 6) hx hb hts inX5_about_X5 hown hK hP 0 rfl rfl 1 (by decide) (hts _ (List.mem_of_getElem? (i := 3) rfl)) (fun _ h9 => h9) rfl dX5_about_107 ?_
              refine va_get (D := D) (ci := 2) (v := .int (V.2.1.1 8 0)) (C := RX3) (T := TX3) (N := 11) hx hb hts inX5_about_X3 hown hK hP 7 rfl rfl 9 (by decide) (hts _ (List.mem_of_getElem? (i := 9) rfl)) (fun _ h9 => h9) rfl dX5_about_110 ?_
              refine W.widen (k := 1) (n := 6) (Nat.le_of_ble_eq_true rfl) (Nat.le_of_ble_eq_true rfl) ?_
              have hr9 : (o_X5_about V what) = ((0 : Int32), (V.2.1.1 8 0)) := by unfold o_X5_about; simp only [if_neg c_1, if_neg c_2, if_neg c_3, if_neg c_4, if_neg c_5, if_pos c_6, if_true, if_false]
              exact hret _ H locs _ ls hr9 hP hD hS dX5_about_113
            · by_cases c_7 : what = 6
              · refine lv_tableIn (tgt := 114) (off := 113) hx hb dX5_about_1 (by rw [c_7]; decide) (by rw [c_7]; decide) (by rw [c_7]; rfl) (by decide) ?_
                refine lv_aload_n hx hb dX5_about_114 rfl (lv_at hl 0 rfl) ?_
                refine va_get (D := D) (ci := 4) (v := .ref (ad 1 0 0)) (C := RX5) (T := TX5) (N := 6) hx hb hts inX5_about_X5 hown hK hP 0 rfl rfl 1 (by decide) (hts _ (List.mem_of_getElem? (i := 3) rfl)) (fun _ h9 => h9) rfl dX5_about_115 ?_
                refine va_get (D := D) (ci := 2) (v := .int (V.2.1.1 9 0)) (C := RX3) (T := TX3) (N := 11) hx hb hts inX5_about_X3 hown hK hP 7 rfl rfl 10 (by decide) (hts _ (List.mem_of_getElem? (i := 10) rfl)) (fun _ h9 => h9) rfl dX5_about_118 ?_
                refine W.widen (k := 1) (n := 6) (Nat.le_of_ble_eq_true rfl) (Nat.le_of_ble_eq_true rfl) ?_
                have hr9 : (o_X5_about V what) = ((0 : Int32), (V.2.1.1 9 0)) := by unfold o_X5_about; simp only [if_neg c_1, if_neg c_2, if_neg c_3, if_neg c_4, if_neg c_5, if_neg c_6, if_pos c_7, if_true, if_false]
                exact hret _ H locs _ ls hr9 hP hD hS dX5_about_121
              · by_cases c_8 : what = 7
                · refine lv_tableIn (tgt := 122) (off := 121) hx hb dX5_about_1 (by rw [c_8]; decide) (by rw [c_8]; decide) (by rw [c_8]; rfl) (by decide) ?_
                  refine lv_aload_n hx hb dX5_about_122 rfl (lv_at hl 0 rfl) ?_
                  refine va_get (D := D) (ci := 4) (v := .ref (ad 1 0 0)) (C := RX5) (T := TX5) (N := 6) hx hb hts inX5_about_X5 hown hK hP 0 rfl rfl 1 (by decide) (hts _ (List.mem_of_getElem? (i := 3) rfl)) (fun _ h9 => h9) rfl dX5_about_123 ?_
                  refine va_get (D := D) (ci := 2) (v := .ref (((ad 1) 0) 1)) (C := RX3) (T := TX3) (N := 11) hx hb hts inX5_about_X3 hown hK hP 7 rfl rfl 0 (by decide) (hts _ (List.mem_of_getElem? (i := 11) rfl)) (fun _ h9 => h9) rfl dX5_about_126 ?_
                  refine lv_iconst (v := 0) hx hb dX5_about_129 (by decide) ?_
                  refine x_iald (f := (V.2.1.1 0)) (j := 0) hx hb hK hP 8 0 rfl rfl rfl (vp_c (by decide)) dX5_about_130 ?_
                  refine W.widen (k := 1) (n := 6) (Nat.le_of_ble_eq_true rfl) (Nat.le_of_ble_eq_true rfl) ?_
                  have hr9 : (o_X5_about V what) = ((0 : Int32), ((V.2.1.1 0) 0)) := by unfold o_X5_about; simp only [if_neg c_1, if_neg c_2, if_neg c_3, if_neg c_4, if_neg c_5, if_neg c_6, if_neg c_7, if_pos c_8, if_true, if_false]
                  exact hret _ H locs _ ls hr9 hP hD hS dX5_about_131
                · by_cases c_9 : what = 8
                  · refine lv_tableIn (tgt := 132) (off := 131) hx hb dX5_about_1 (by rw [c_9]; decide) (by rw [c_9]; decide) (by rw [c_9]; rfl) (by decide) ?_
                    refine lv_aload_n hx hb dX5_about_132 rfl (lv_at hl 0 rfl) ?_
                    refine va_get (D := D) (ci := 4) (v := .ref (ad 1 0 0)) (C := RX5) (T := TX5) (N := 6) hx hb hts inX5_about_X5 hown hK hP 0 rfl rfl 1 (by decide) (hts _ (List.mem_of_getElem? (i := 3) rfl)) (fun _ h9 => h9) rfl dX5_about_133 ?_
                    refine va_get (D := D) (ci := 2) (v := .ref (((ad 1) 0) 1)) (C := RX3) (T := TX3) (N := 11) hx hb hts inX5_about_X3 hown hK hP 7 rfl rfl 0 (by decide) (hts _ (List.mem_of_getElem? (i := 11) rfl)) (fun _ h9 => h9) rfl dX5_about_136 ?_
                    refine lv_iconst (v := 1) hx hb dX5_about_139 (by decide) ?_
                    refine x_iald (f := (V.2.1.1 0)) (j := 1) hx hb hK hP 8 0 rfl rfl rfl (vp_c (by decide)) dX5_about_140 ?_
                    refine W.widen (k := 1) (n := 6) (Nat.le_of_ble_eq_true rfl) (Nat.le_of_ble_eq_true rfl) ?_
                    have hr9 : (o_X5_about V what) = ((0 : Int32), ((V.2.1.1 0) 1)) := by unfold o_X5_about; simp only [if_neg c_1, if_neg c_2, if_neg c_3, if_neg c_4, if_neg c_5, if_neg c_6, if_neg c_7, if_neg c_8, if_pos c_9, if_true, if_false]
                    exact hret _ H locs _ ls hr9 hP hD hS dX5_about_141
                  · by_cases c_10 : what = 9
                    · refine lv_tableIn (tgt := 142) (off := 141) hx hb dX5_about_1 (by rw [c_10]; decide) (by rw [c_10]; decide) (by rw [c_10]; rfl) (by decide) ?_
                      refine lv_aload_n hx hb dX5_about_142 rfl (lv_at hl 0 rfl) ?_
                      refine va_get (D := D) (ci := 4) (v := .ref (ad 1 0 0)) (C := RX5) (T := TX5) (N := 6) hx hb hts inX5_about_X5 hown hK hP 0 rfl rfl 1 (by decide) (hts _ (List.mem_of_getElem? (i := 3) rfl)) (fun _ h9 => h9) rfl dX5_about_143 ?_
                      refine va_get (D := D) (ci := 2) (v := .ref (((ad 1) 0) 1)) (C := RX3) (T := TX3) (N := 11) hx hb hts inX5_about_X3 hown hK hP 7 rfl rfl 0 (by decide) (hts _ (List.mem_of_getElem? (i := 11) rfl)) (fun _ h9 => h9) rfl dX5_about_146 ?_
                      refine lv_iconst (v := 2) hx hb dX5_about_149 (by decide) ?_
                      refine x_iald (f := (V.2.1.1 0)) (j := 2) hx hb hK hP 8 0 rfl rfl rfl (vp_c (by decide)) dX5_about_150 ?_
                      refine W.widen (k := 1) (n := 6) (Nat.le_of_ble_eq_true rfl) (Nat.le_of_ble_eq_true rfl) ?_
                      have hr9 : (o_X5_about V what) = ((0 : Int32), ((V.2.1.1 0) 2)) := by unfold o_X5_about; simp only [if_neg c_1, if_neg c_2, if_neg c_3, if_neg c_4, if_neg c_5, if_neg c_6, if_neg c_7, if_neg c_8, if_neg c_9, if_pos c_10, if_true, if_false]
                      exact hret _ H locs _ ls hr9 hP hD hS dX5_about_151
                    · have hso : what.toInt < 0 ∨ 9 < what.toInt := sw_out10 what c_1 c_2 c_3 c_4 c_5 c_6 c_7 c_8 c_9 c_10
                      refine lv_tableOut (tgt := 152) hx hb dX5_about_1 hso (by decide) ?_
                      have ho9 : (o_X5_about V what).1 = (-9999002 : Int32) := by unfold o_X5_about; simp only [if_neg c_1, if_neg c_2, if_neg c_3, if_neg c_4, if_neg c_5, if_neg c_6, if_neg c_7, if_neg c_8, if_neg c_9, if_neg c_10, if_true, if_false]
                      rw [hQ]
                      exact thr_2 (text := "no such number") hx hb hlt hown (hts _ (List.mem_of_getElem? (i := 1) rfl)) (hts _ (List.mem_of_getElem? (i := 2) rfl)) (fun w hw => hts w (List.mem_cons_of_mem _ (List.mem_append_right _ hw))) (by decide +kernel) hE hS (hl.1.trans hml.symm) dX5_about_152 dX5_about_155 dX5_about_156 dX5_about_158 dX5_about_161 htab (Nat.le_of_ble_eq_true rfl) (Nat.le_of_ble_eq_true rfl) (Nat.le_of_ble_eq_true rfl) (Nat.le_of_ble_eq_true rfl) hlocks hAe ho9 hP hD (Nat.le_of_ble_eq_true rfl) (Nat.le_of_ble_eq_true rfl)

def o_X5_desk (V : BV) (d : Int32) (what : Int32) : Int32 × Int32 := (if (o_X5_checkDesk d) = 0 then (if d = 0 then (if what = 0 then ((0 : Int32), ((V.2.1.2.1 0) 0)) else (if what = 1 then ((0 : Int32), ((V.2.1.2.1 0) 1)) else (if what = 2 then ((0 : Int32), ((V.2.1.2.1 0) 2)) else (if what = 3 then ((0 : Int32), (V.2.1.2.1 7 0)) else (if what = 4 then ((0 : Int32), (r_X0_countUsed V.2.1.2.1)) else ((-9999002 : Int32), (0 : Int32))))))) else (if what = 0 then ((0 : Int32), ((V.2.1.2.2 0) 0)) else (if what = 1 then ((0 : Int32), ((V.2.1.2.2 0) 1)) else (if what = 2 then ((0 : Int32), ((V.2.1.2.2 0) 2)) else (if what = 3 then ((0 : Int32), (V.2.1.2.2 7 0)) else (if what = 4 then ((0 : Int32), (r_X0_countUsed V.2.1.2.2)) else ((-9999002 : Int32), (0 : Int32)))))))) else ((o_X5_checkDesk d), (0 : Int32)))
abbrev rX5_desk : Room := { frames := 7, cells := 2, slots := 12, locals := 110 }
theorem inX5_desk_X0 : ∀ w ∈ u_ws RX0 TX0 8, w ∈ wsX5_desk := by decide +kernel
theorem inX5_desk_X3 : ∀ w ∈ u_ws RX3 TX3 11, w ∈ wsX5_desk := by decide +kernel
theorem inX5_desk_X5 : ∀ w ∈ u_ws RX5 TX5 6, w ∈ wsX5_desk := by decide +kernel
set_option maxHeartbeats 4000000 in
set_option maxRecDepth 100000 in
theorem c_X5_desk (l : Launch) (hlt : l.stackTraces = false) (D : va_G) (cy : Nat → ClassId) (ad : AD) (V : BV) (d : Int32) (what : Int32) (sz : Nat)  : CX l yX5_desk wsX5_desk rX5_desk D cy [.ref (ad 0 0 0), .int d, .int what] (wB cy ad V) sz (o_X5_desk V d what) (wB cy ad V) 2 12 := by
  refine stx_i (ty := .int) (cc := cX5_desk) (maxL := 4) (by decide) rfl rfl (Nat.le_of_ble_eq_true rfl) ?_
  intro pp e s m below meth c A Q ls hx hb hts hown hml hlocks htab hsz hP hK hD hE hA hl hAe hQ hret hout
  subst hsz
  have hown : s.vm.findClass RX5 = some m.cls := hown
  have hl : lv_has ls 4 [(0, .ref (ad 0 0 0)), (1, .int d), (2, .int what)] := hl
  obtain ⟨H, hH⟩ : ∃ H, H = s.heap := ⟨_, rfl⟩
  rw [← hH] at hP ⊢
  have hS : va_S A s.heap H [] := by rw [hH]; exact va_S.rf
  obtain ⟨locs, hlo⟩ : ∃ locs : List Loc, locs = [] := ⟨_, rfl⟩
  rw [← hlo] at hS ⊢
  refine lv_iload_n hx hb dX5_desk_0 rfl (lv_at hl 1 rfl) ?_
  refine clx_n (vx_runS (As := [.int d]) (rest := []) ⟨hx, hb, hml, hown, hts⟩ (c_X5_checkDesk l hlt D cy d H.size) (va_cwS 1 hts gX5_desk_X5_checkDesk rfl rfl rfl (by decide +kernel) ⟨Nat.le_of_ble_eq_true rfl, Nat.le_of_ble_eq_true rfl⟩) ⟨blU, preU hP hD (List.Perm.refl _) hK hE hS hA⟩ rfl rfl hl.1 rfl (lv_room (Nat.le_of_ble_eq_true rfl)) dX5_desk_1 ⟨Nat.le_of_ble_eq_true rfl, Nat.le_of_ble_eq_true rfl⟩) hP hD (List.Perm.refl _) hS hA (fun c_1 q9 ce H locs hq hv hcl hP hD hS => ?_) (fun c_1 H locs hP hD hS => ?_)
  · have hP : va_P D vwCl (wB cy ad V) H := vP_perm hP (List.Perm.refl _)
    have hD : va_D A (wB cy ad V) := vD_perm hD (List.Perm.refl _)
    have ho9 : (o_X5_desk V d what).1 = (o_X5_checkDesk d) := by unfold o_X5_desk; simp only [if_neg c_1, if_true, if_false]
    exact vx_widen (k := 2) (n := 12) (Nat.le_of_ble_eq_true rfl) (Nat.le_of_ble_eq_true rfl) (hout _ q9 ce H locs _ ls _ ho9 c_1 hq hv hcl hP hD hS)
  · have hP : va_P D vwCl (wB cy ad V) H := vP_perm hP (List.Perm.refl _)
    have hD : va_D A (wB cy ad V) := vD_perm hD (List.Perm.refl _)
    have hd := (ckDesk_of c_1)
    rcases hd with hd | hd
    · subst hd
      have hd0 : (0 : Int32) = 0 := by decide
      have hl : lv_has ls 4 [(0, .ref (ad 0 0 0)), (1, .int (0 : Int32)), (2, .int what)] := hl
      refine lv_aload_n hx hb dX5_desk_4 rfl (lv_at hl 0 rfl) ?_
      refine va_get (D := D) (ci := 4) (v := .ref (ad 1 0 0)) (C := RX5) (T := TX5) (N := 6) hx hb hts inX5_desk_X5 hown hK hP 0 rfl rfl 1 (by decide) (hts _ (List.mem_of_getElem? (i := 3) rfl)) (fun _ h9 => h9) rfl dX5_desk_5 ?_
      refine va_get (D := D) (ci := 2) (v := .ref (((ad 1) 0) 2)) (C := RX3) (T := TX3) (N := 11) hx hb hts inX5_desk_X3 hown hK hP 7 rfl rfl 1 (by decide) (hts _ (List.mem_of_getElem? (i := 4) rfl)) (fun _ h9 => h9) rfl dX5_desk_8 ?_
      refine lv_iload_n hx hb dX5_desk_11 rfl (lv_at hl 1 rfl) ?_
      refine x_aldq (v := .ref (((ad 1) 1) 0)) hx hb hK hP 9 2 rfl rfl (vp_c (by decide)) rfl dX5_desk_12 ?_
      refine lv_astore_n (lv' := [(3, .ref (((ad 1) 1) 0)), (0, .ref (ad 0 0 0)), (1, .int (0 : Int32)), (2, .int what)]) hx hb dX5_desk_13 rfl hl (by decide) rfl (fun ls hl => ?_)
      refine lv_iload_n hx hb dX5_desk_14 rfl (lv_at hl 3 rfl) ?_
      by_cases c_2 : what = 0
      · refine lv_tableIn (tgt := 48) (off := 33) hx hb dX5_desk_15 (by rw [c_2]; decide) (by rw [c_2]; decide) (by rw [c_2]; rfl) (by decide) ?_
        refine lv_aload_n hx hb dX5_desk_48 rfl (lv_at hl 0 rfl) ?_
        refine va_get (D := D) (ci := 0) (v := .ref (((ad 1) 1) 1)) (C := RX0) (T := TX0) (N := 8) hx hb hts inX5_desk_X0 hown hK hP 14 rfl rfl 0 (by decide) (hts _ (List.mem_of_getElem? (i := 5) rfl)) (fun _ h9 => h9) rfl dX5_desk_49 ?_
        refine lv_iconst (v := 0) hx hb dX5_desk_52 (by decide) ?_
        refine x_iald (f := (V.2.1.2.1 0)) (j := 0) hx hb hK hP 15 0 rfl rfl rfl (vp_c (by decide)) dX5_desk_53 ?_
        refine W.widen (k := 2) (n := 12) (Nat.le_of_ble_eq_true rfl) (Nat.le_of_ble_eq_true rfl) ?_
        have hr9 : (o_X5_desk V (0 : Int32) what) = ((0 : Int32), ((V.2.1.2.1 0) 0)) := by unfold o_X5_desk; simp only [if_pos c_1, if_pos hd0, if_pos c_2, if_true, if_false]
        exact hret _ H locs _ ls hr9 hP hD hS dX5_desk_54
      · by_cases c_3 : what = 1
        · refine lv_tableIn (tgt := 55) (off := 40) hx hb dX5_desk_15 (by rw [c_3]; decide) (by rw [c_3]; decide) (by rw [c_3]; rfl) (by decide) ?_
          refine lv_aload_n hx hb dX5_desk_55 rfl (lv_at hl 0 rfl) ?_
          refine va_get (D := D) (ci := 0) (v := .ref (((ad 1) 1) 1)) (C := RX0) (T := TX0) (N := 8) hx hb hts inX5_desk_X0 hown hK hP 14 rfl rfl 0 (by decide) (hts _ (List.mem_of_getElem? (i := 5) rfl)) (fun _ h9 => h9) rfl dX5_desk_56 ?_
          refine lv_iconst (v := 1) hx hb dX5_desk_59 (by decide) ?_
          refine x_iald (f := (V.2.1.2.1 0)) (j := 1) hx hb hK hP 15 0 rfl rfl rfl (vp_c (by decide)) dX5_desk_60 ?_
          refine W.widen (k := 2) (n := 12) (Nat.le_of_ble_eq_true rfl) (Nat.le_of_ble_eq_true rfl) ?_
          have hr9 : (o_X5_desk V (0 : Int32) what) = ((0 : Int32), ((V.2.1.2.1 0) 1)) := by unfold o_X5_desk; simp only [if_pos c_1, if_pos hd0, if_neg c_2, if_pos c_3, if_true, if_false]
          exact hret _ H locs _ ls hr9 hP hD hS dX5_desk_61
        · by_cases c_4 : what = 2
          · refine lv_tableIn (tgt := 62) (off := 47) hx hb dX5_desk_15 (by rw [c_4]; decide) (by rw [c_4]; decide) (by rw [c_4]; rfl) (by decide) ?_
            refine lv_aload_n hx hb dX5_desk_62 rfl (lv_at hl 0 rfl) ?_
            refine va_get (D := D) (ci := 0) (v := .ref (((ad 1) 1) 1)) (C := RX0) (T := TX0) (N := 8) hx hb hts inX5_desk_X0 hown hK hP 14 rfl rfl 0 (by decide) (hts _ (List.mem_of_getElem? (i := 5) rfl)) (fun _ h9 => h9) rfl dX5_desk_63 ?_
            refine lv_iconst (v := 2) hx hb dX5_desk_66 (by decide) ?_
            refine x_iald (f := (V.2.1.2.1 0)) (j := 2) hx hb hK hP 15 0 rfl rfl rfl (vp_c (by decide)) dX5_desk_67 ?_
            refine W.widen (k := 2) (n := 12) (Nat.le_of_ble_eq_true rfl) (Nat.le_of_ble_eq_true rfl) ?_
            have hr9 : (o_X5_desk V (0 : Int32) what) = ((0 : Int32), ((V.2.1.2.1 0) 2)) := by unfold o_X5_desk; simp only [if_pos c_1, if_pos hd0, if_neg c_2, if_neg c_3, if_pos c_4, if_true, if_false]
            exact hret _ H locs _ ls hr9 hP hD hS dX5_desk_68
          · by_cases c_5 : what = 3
            · refine lv_tableIn (tgt := 69) (off := 54) hx hb dX5_desk_15 (by rw [c_5]; decide) (by rw [c_5]; decide) (by rw [c_5]; rfl) (by decide) ?_
              refine lv_aload_n hx hb dX5_desk_69 rfl (lv_at hl 0 rfl) ?_
              refine va_get (D := D) (ci := 0) (v := .int (V.2.1.2.1 7 0)) (C := RX0) (T := TX0) (N := 8) hx hb hts inX5_desk_X0 hown hK hP 14 rfl rfl 7 (by decide) (hts _ (List.mem_of_getElem? (i := 6) rfl)) (fun _ h9 => h9) rfl dX5_desk_70 ?_
              refine W.widen (k := 2) (n := 12) (Nat.le_of_ble_eq_true rfl) (Nat.le_of_ble_eq_true rfl) ?_
              have hr9 : (o_X5_desk V (0 : Int32) what) = ((0 : Int32), (V.2.1.2.1 7 0)) := by unfold o_X5_desk; simp only [if_pos c_1, if_pos hd0, if_neg c_2, if_neg c_3, if_neg c_4, if_pos c_5, if_true, if_false]
              exact hret _ H locs _ ls hr9 hP hD hS dX5_desk_73
            · by_cases c_6 : what = 4
              · refine lv_tableIn (tgt := 74) (off := 59) hx hb dX5_desk_15 (by rw [c_6]; decide) (by rw [c_6]; decide) (by rw [c_6]; rfl) (by decide) ?_
                refine lv_aload_n hx hb dX5_desk_74 rfl (lv_at hl 0 rfl) ?_
                refine cl_i (va_runV (As := []) (rest := []) ⟨hx, hb, hml, hown, hts⟩ (c_X0_countUsed l D cy ((ad 1) 1) V.2.1.2.1 H.size) (cwV 0 hts gX5_desk_X0_countUsed rfl rfl rfl (by decide +kernel) ⟨Nat.le_of_ble_eq_true rfl, Nat.le_of_ble_eq_true rfl⟩) ⟨blU, va_recv hK hP (ci := 0) (q0 := 14) rfl rfl, preU hP hD (pmB [cE cy ad V.2.2.2.2.2.2, cT cy (ad 0 1) V.1, cO cy (ad 1) V.2.1.1, cD cy (ad 1 1) V.2.1.2.1, cD cy (ad 1 2) V.2.1.2.2, cS cy (ad 2) V.2.2.1, cS cy (ad 3) V.2.2.2.1, cS cy (ad 4) V.2.2.2.2.1, cH cy (ad 0 2) (fun i => ad (i + 5)) V.2.2.2.2.2.1] 3 _ (cD cy ((ad 1) 1) V.2.1.2.1) rfl).1 hK hE hS hA⟩ rfl rfl hl.1 rfl (lv_room (Nat.le_of_ble_eq_true rfl)) dX5_desk_75 ⟨Nat.le_of_ble_eq_true rfl, Nat.le_of_ble_eq_true rfl⟩) hP hD (pmB [cE cy ad V.2.2.2.2.2.2, cT cy (ad 0 1) V.1, cO cy (ad 1) V.2.1.1, cD cy (ad 1 1) V.2.1.2.1, cD cy (ad 1 2) V.2.1.2.2, cS cy (ad 2) V.2.2.1, cS cy (ad 3) V.2.2.2.1, cS cy (ad 4) V.2.2.2.2.1, cH cy (ad 0 2) (fun i => ad (i + 5)) V.2.2.2.2.2.1] 3 _ (cD cy ((ad 1) 1) V.2.1.2.1) rfl).1 hS hA (fun H locs hP hD hS => ?_)
                have hP : va_P D vwCl (wB cy ad V) H := vP_perm hP (pmB [cE cy ad V.2.2.2.2.2.2, cT cy (ad 0 1) V.1, cO cy (ad 1) V.2.1.1, cD cy (ad 1 1) V.2.1.2.1, cD cy (ad 1 2) V.2.1.2.2, cS cy (ad 2) V.2.2.1, cS cy (ad 3) V.2.2.2.1, cS cy (ad 4) V.2.2.2.2.1, cH cy (ad 0 2) (fun i => ad (i + 5)) V.2.2.2.2.2.1] 3 _ (cD cy ((ad 1) 1) V.2.1.2.1) rfl).2
                have hD : va_D A (wB cy ad V) := vD_perm hD (pmB [cE cy ad V.2.2.2.2.2.2, cT cy (ad 0 1) V.1, cO cy (ad 1) V.2.1.1, cD cy (ad 1 1) V.2.1.2.1, cD cy (ad 1 2) V.2.1.2.2, cS cy (ad 2) V.2.2.1, cS cy (ad 3) V.2.2.2.1, cS cy (ad 4) V.2.2.2.2.1, cH cy (ad 0 2) (fun i => ad (i + 5)) V.2.2.2.2.2.1] 3 _ (cD cy ((ad 1) 1) V.2.1.2.1) rfl).2
                refine W.widen (k := 2) (n := 12) (Nat.le_of_ble_eq_true rfl) (Nat.le_of_ble_eq_true rfl) ?_
                have hr9 : (o_X5_desk V (0 : Int32) what) = ((0 : Int32), (r_X0_countUsed V.2.1.2.1)) := by unfold o_X5_desk; simp only [if_pos c_1, if_pos hd0, if_neg c_2, if_neg c_3, if_neg c_4, if_neg c_5, if_pos c_6, if_true, if_false]
                exact hret _ H locs _ ls hr9 hP hD hS dX5_desk_78
              · have hso : what.toInt < 0 ∨ 4 < what.toInt := sw_out5 what c_2 c_3 c_4 c_5 c_6
                refine lv_tableOut (tgt := 79) hx hb dX5_desk_15 hso (by decide) ?_
                have ho9 : (o_X5_desk V (0 : Int32) what).1 = (-9999002 : Int32) := by unfold o_X5_desk; simp only [if_pos c_1, if_pos hd0, if_neg c_2, if_neg c_3, if_neg c_4, if_neg c_5, if_neg c_6, if_true, if_false]
                rw [hQ]
                exact thr_2 (text := "no such number of a desk") hx hb hlt hown (hts _ (List.mem_of_getElem? (i := 1) rfl)) (hts _ (List.mem_of_getElem? (i := 2) rfl)) (fun w hw => hts w (List.mem_cons_of_mem _ (List.mem_append_left _ (List.mem_append_right _ hw)))) (by decide +kernel) hE hS (hl.1.trans hml.symm) dX5_desk_79 dX5_desk_82 dX5_desk_83 dX5_desk_85 dX5_desk_88 htab (Nat.le_of_ble_eq_true rfl) (Nat.le_of_ble_eq_true rfl) (Nat.le_of_ble_eq_true rfl) (Nat.le_of_ble_eq_true rfl) hlocks hAe ho9 hP hD (Nat.le_of_ble_eq_true rfl) (Nat.le_of_ble_eq_true rfl)
    · subst hd
      have hd1 : ¬ (1 : Int32) = 0 := by decide
      have hl : lv_has ls 4 [(0, .ref (ad 0 0 0)), (1, .int (1 : Int32)), (2, .int what)] := hl
      refine lv_aload_n hx hb dX5_desk_4 rfl (lv_at hl 0 rfl) ?_
      refine va_get (D := D) (ci := 4) (v := .ref (ad 1 0 0)) (C := RX5) (T := TX5) (N := 6) hx hb hts inX5_desk_X5 hown hK hP 0 rfl rfl 1 (by decide) (hts _ (List.mem_of_getElem? (i := 3) rfl)) (fun _ h9 => h9) rfl dX5_desk_5 ?_
      refine va_get (D := D) (ci := 2) (v := .ref (((ad 1) 0) 2)) (C := RX3) (T := TX3) (N := 11) hx hb hts inX5_desk_X3 hown hK hP 7 rfl rfl 1 (by decide) (hts _ (List.mem_of_getElem? (i := 4) rfl)) (fun _ h9 => h9) rfl dX5_desk_8 ?_
      refine lv_iload_n hx hb dX5_desk_11 rfl (lv_at hl 1 rfl) ?_
      refine x_aldq (v := .ref (((ad 1) 2) 0)) hx hb hK hP 9 2 rfl rfl (vp_c (by decide)) rfl dX5_desk_12 ?_
      refine lv_astore_n (lv' := [(3, .ref (((ad 1) 2) 0)), (0, .ref (ad 0 0 0)), (1, .int (1 : Int32)), (2, .int what)]) hx hb dX5_desk_13 rfl hl (by decide) rfl (fun ls hl => ?_)
      refine lv_iload_n hx hb dX5_desk_14 rfl (lv_at hl 3 rfl) ?_
      by_cases c_7 : what = 0
      · refine lv_tableIn (tgt := 48) (off := 33) hx hb dX5_desk_15 (by rw [c_7]; decide) (by rw [c_7]; decide) (by rw [c_7]; rfl) (by decide) ?_
        refine lv_aload_n hx hb dX5_desk_48 rfl (lv_at hl 0 rfl) ?_
        refine va_get (D := D) (ci := 0) (v := .ref (((ad 1) 2) 1)) (C := RX0) (T := TX0) (N := 8) hx hb hts inX5_desk_X0 hown hK hP 21 rfl rfl 0 (by decide) (hts _ (List.mem_of_getElem? (i := 5) rfl)) (fun _ h9 => h9) rfl dX5_desk_49 ?_
        refine lv_iconst (v := 0) hx hb dX5_desk_52 (by decide) ?_
        refine x_iald (f := (V.2.1.2.2 0)) (j := 0) hx hb hK hP 22 0 rfl rfl rfl (vp_c (by decide)) dX5_desk_53 ?_
        refine W.widen (k := 2) (n := 12) (Nat.le_of_ble_eq_true rfl) (Nat.le_of_ble_eq_true rfl) ?_
        have hr9 : (o_X5_desk V (1 : Int32) what) = ((0 : Int32), ((V.2.1.2.2 0) 0)) := by unfold o_X5_desk; simp only [if_pos c_1, if_neg hd1, if_pos c_7, if_true, if_false]
        exact hret _ H locs _ ls hr9 hP hD hS dX5_desk_54
      · by_cases c_8 : what = 1
        · refine lv_tableIn (tgt := 55) (off := 40) hx hb dX5_desk_15 (by rw [c_8]; decide) (by rw [c_8]; decide) (by rw [c_8]; rfl) (by decide) ?_
          refine lv_aload_n hx hb dX5_desk_55 rfl (lv_at hl 0 rfl) ?_
          refine va_get (D := D) (ci := 0) (v := .ref (((ad 1) 2) 1)) (C := RX0) (T := TX0) (N := 8) hx hb hts inX5_desk_X0 hown hK hP 21 rfl rfl 0 (by decide) (hts _ (List.mem_of_getElem? (i := 5) rfl)) (fun _ h9 => h9) rfl dX5_desk_56 ?_
          refine lv_iconst (v := 1) hx hb dX5_desk_59 (by decide) ?_
          refine x_iald (f := (V.2.1.2.2 0)) (j := 1) hx hb hK hP 22 0 rfl rfl rfl (vp_c (by decide)) dX5_desk_60 ?_
          refine W.widen (k := 2) (n := 12) (Nat.le_of_ble_eq_true rfl) (Nat.le_of_ble_eq_true rfl) ?_
          have hr9 : (o_X5_desk V (1 : Int32) what) = ((0 : Int32), ((V.2.1.2.2 0) 1)) := by unfold o_X5_desk; simp only [if_pos c_1, if_neg hd1, if_neg c_7, if_pos c_8, if_true, if_false]
          exact hret _ H locs _ ls hr9 hP hD hS dX5_desk_61
        · by_cases c_9 : what = 2
          · refine lv_tableIn (tgt := 62) (off := 47) hx hb dX5_desk_15 (by rw [c_9]; decide) (by rw [c_9]; decide) (by rw [c_9]; rfl) (by decide) ?_
            refine lv_aload_n hx hb dX5_desk_62 rfl (lv_at hl 0 rfl) ?_
            refine va_get (D := D) (ci := 0) (v := .ref (((ad 1) 2) 1)) (C := RX0) (T := TX0) (N := 8) hx hb hts inX5_desk_X0 hown hK hP 21 rfl rfl 0 (by decide) (hts _ (List.mem_of_getElem? (i := 5) rfl)) (fun _ h9 => h9) rfl dX5_desk_63 ?_
            refine lv_iconst (v := 2) hx hb dX5_desk_66 (by decide) ?_
            refine x_iald (f := (V.2.1.2.2 0)) (j := 2) hx hb hK hP 22 0 rfl rfl rfl (vp_c (by decide)) dX5_desk_67 ?_
            refine W.widen (k := 2) (n := 12) (Nat.le_of_ble_eq_true rfl) (Nat.le_of_ble_eq_true rfl) ?_
            have hr9 : (o_X5_desk V (1 : Int32) what) = ((0 : Int32), ((V.2.1.2.2 0) 2)) := by unfold o_X5_desk; simp only [if_pos c_1, if_neg hd1, if_neg c_7, if_neg c_8, if_pos c_9, if_true, if_false]
            exact hret _ H locs _ ls hr9 hP hD hS dX5_desk_68
          · by_cases c_10 : what = 3
            · refine lv_tableIn (tgt := 69) (off := 54) hx hb dX5_desk_15 (by rw [c_10]; decide) (by rw [c_10]; decide) (by rw [c_10]; rfl) (by decide) ?_
              refine lv_aload_n hx hb dX5_desk_69 rfl (lv_at hl 0 rfl) ?_
              refine va_get (D := D) (ci := 0) (v := .int (V.2.1.2.2 7 0)) (C := RX0) (T := TX0) (N := 8) hx hb hts inX5_desk_X0 hown hK hP 21 rfl rfl 7 (by decide) (hts _ (List.mem_of_getElem? (i := 6) rfl)) (fun _ h9 => h9) rfl dX5_desk_70 ?_
              refine W.widen (k := 2) (n := 12) (Nat.le_of_ble_eq_true rfl) (Nat.le_of_ble_eq_true rfl) ?_
              have hr9 : (o_X5_desk V (1 : Int32) what) = ((0 : Int32), (V.2.1.2.2 7 0)) := by unfold o_X5_desk; simp only [if_pos c_1, if_neg hd1, if_neg c_7, if_neg c_8, if_neg c_9, if_pos c_10, if_true, if_false]
              exact hret _ H locs _ ls hr9 hP hD hS dX5_desk_73
            · by_cases c_11 : what = 4
              · refine lv_tableIn (tgt := 74) (off := 59) hx hb dX5_desk_15 (by rw [c_11]; decide) (by rw [c_11]; decide) (by rw [c_11]; rfl) (by decide) ?_
                refine lv_aload_n hx hb dX5_desk_74 rfl (lv_at hl 0 rfl) ?_
                refine cl_i (va_runV (As := []) (rest := []) ⟨hx, hb, hml, hown, hts⟩ (c_X0_countUsed l D cy ((ad 1) 2) V.2.1.2.2 H.size) (cwV 0 hts gX5_desk_X0_countUsed rfl rfl rfl (by decide +kernel) ⟨Nat.le_of_ble_eq_true rfl, Nat.le_of_ble_eq_true rfl⟩) ⟨blU, va_recv hK hP (ci := 0) (q0 := 21) rfl rfl, preU hP hD (pmB [cE cy ad V.2.2.2.2.2.2, cT cy (ad 0 1) V.1, cO cy (ad 1) V.2.1.1, cD cy (ad 1 1) V.2.1.2.1, cD cy (ad 1 2) V.2.1.2.2, cS cy (ad 2) V.2.2.1, cS cy (ad 3) V.2.2.2.1, cS cy (ad 4) V.2.2.2.2.1, cH cy (ad 0 2) (fun i => ad (i + 5)) V.2.2.2.2.2.1] 4 _ (cD cy ((ad 1) 2) V.2.1.2.2) rfl).1 hK hE hS hA⟩ rfl rfl hl.1 rfl (lv_room (Nat.le_of_ble_eq_true rfl)) dX5_desk_75 ⟨Nat.le_of_ble_eq_true rfl, Nat.le_of_ble_eq_true rfl⟩) hP hD (pmB [cE cy ad V.2.2.2.2.2.2, cT cy (ad 0 1) V.1, cO cy (ad 1) V.2.1.1, cD cy (ad 1 1) V.2.1.2.1, cD cy (ad 1 2) V.2.1.2.2, cS cy (ad 2) V.2.2.1, cS cy (ad 3) V.2.2.2.1, cS cy (ad 4) V.2.2.2.2.1, cH cy (ad 0 2) (fun i => ad (i + 5)) V.2.2.2.2.2.1] 4 _ (cD cy ((ad 1) 2) V.2.1.2.2) rfl).1 hS hA (fun H locs hP hD hS => ?_)
                have hP : va_P D vwCl (wB cy ad V) H := vP_perm hP (pmB [cE cy ad V.2.2.2.2.2.2, cT cy (ad 0 1) V.1, cO cy (ad 1) V.2.1.1, cD cy (ad 1 1) V.2.1.2.1, cD cy (ad 1 2) V.2.1.2.2, cS cy (ad 2) V.2.2.1, cS cy (ad 3) V.2.2.2.1, cS cy (ad 4) V.2.2.2.2.1, cH cy (ad 0 2) (fun i => ad (i + 5)) V.2.2.2.2.2.1] 4 _ (cD cy ((ad 1) 2) V.2.1.2.2) rfl).2
                have hD : va_D A (wB cy ad V) := vD_perm hD (pmB [cE cy ad V.2.2.2.2.2.2, cT cy (ad 0 1) V.1, cO cy (ad 1) V.2.1.1, cD cy (ad 1 1) V.2.1.2.1, cD cy (ad 1 2) V.2.1.2.2, cS cy (ad 2) V.2.2.1, cS cy (ad 3) V.2.2.2.1, cS cy (ad 4) V.2.2.2.2.1, cH cy (ad 0 2) (fun i => ad (i + 5)) V.2.2.2.2.2.1] 4 _ (cD cy ((ad 1) 2) V.2.1.2.2) rfl).2
                refine W.widen (k := 2) (n := 12) (Nat.le_of_ble_eq_true rfl) (Nat.le_of_ble_eq_true rfl) ?_
                have hr9 : (o_X5_desk V (1 : Int32) what) = ((0 : Int32), (r_X0_countUsed V.2.1.2.2)) := by unfold o_X5_desk; simp only [if_pos c_1, if_neg hd1, if_neg c_7, if_neg c_8, if_neg c_9, if_neg c_10, if_pos c_11, if_true, if_false]
                exact hret _ H locs _ ls hr9 hP hD hS dX5_desk_78
              · have hso : what.toInt < 0 ∨ 4 < what.toInt := sw_out5 what c_7 c_8 c_9 c_10 c_11
                refine lv_tableOut (tgt := 79) hx hb dX5_desk_15 hso (by decide) ?_
                have ho9 : (o_X5_desk V (1 : Int32) what).1 = (-9999002 : Int32) := by unfold o_X5_desk; simp only [if_pos c_1, if_neg hd1, if_neg c_7, if_neg c_8, if_neg c_9, if_neg c_10, if_neg c_11, if_true, if_false]
                rw [hQ]
                exact thr_2 (text := "no such number of a desk") hx hb hlt hown (hts _ (List.mem_of_getElem? (i := 1) rfl)) (hts _ (List.mem_of_getElem? (i := 2) rfl)) (fun w hw => hts w (List.mem_cons_of_mem _ (List.mem_append_left _ (List.mem_append_right _ hw)))) (by decide +kernel) hE hS (hl.1.trans hml.symm) dX5_desk_79 dX5_desk_82 dX5_desk_83 dX5_desk_85 dX5_desk_88 htab (Nat.le_of_ble_eq_true rfl) (Nat.le_of_ble_eq_true rfl) (Nat.le_of_ble_eq_true rfl) (Nat.le_of_ble_eq_true rfl) hlocks hAe ho9 hP hD (Nat.le_of_ble_eq_true rfl) (Nat.le_of_ble_eq_true rfl)

def o_X5_note (V : BV) (d : Int32) (i : Int32) (what : Int32) : Int32 × Int32 := (if (o_X5_checkDesk d) = 0 then (if (o_X5_checkNote V i) = 0 then (if d = 0 then (if what = 0 then ((0 : Int32), ((V.2.1.2.1 1) i.toNatClampNeg)) else (if what = 1 then ((0 : Int32), ((V.2.1.2.1 2) i.toNatClampNeg)) else (if what = 2 then ((0 : Int32), ((V.2.1.2.1 3) i.toNatClampNeg)) else (if what = 3 then ((0 : Int32), ((V.2.1.2.1 4) i.toNatClampNeg)) else ((-9999002 : Int32), (0 : Int32)))))) else (if what = 0 then ((0 : Int32), ((V.2.1.2.2 1) i.toNatClampNeg)) else (if what = 1 then ((0 : Int32), ((V.2.1.2.2 2) i.toNatClampNeg)) else (if what = 2 then ((0 : Int32), ((V.2.1.2.2 3) i.toNatClampNeg)) else (if what = 3 then ((0 : Int32), ((V.2.1.2.2 4) i.toNatClampNeg)) else ((-9999002 : Int32), (0 : Int32))))))) else ((o_X5_checkNote V i), (0 : Int32))) else ((o_X5_checkDesk d), (0 : Int32)))
abbrev rX5_note : Room := { frames := 7, cells := 3, slots := 18, locals := 111 }
theorem inX5_note_X0 : ∀ w ∈ u_ws RX0 TX0 8, w ∈ wsX5_note := by decide +kernel
theorem inX5_note_X3 : ∀ w ∈ u_ws RX3 TX3 11, w ∈ wsX5_note := by decide +kernel
theorem inX5_note_X5 : ∀ w ∈ u_ws RX5 TX5 6, w ∈ wsX5_note := by decide +kernel
set_option maxHeartbeats 4000000 in
set_option maxRecDepth 100000 in
theorem c_X5_note (l : Launch) (hlt : l.stackTraces = false) (D : va_G) (cy : Nat → ClassId) (ad : AD) (V : BV) (d : Int32) (i : Int32) (what : Int32) (sz : Nat) (hsz2 : szok (V.2.1.1 0 0)) : CX l yX5_note wsX5_note rX5_note D cy [.ref (ad 0 0 0), .int d, .int i, .int what] (wB cy ad V) sz (o_X5_note V d i what) (wB cy ad V) 3 18 := by
  refine stx_i (ty := .int) (cc := cX5_note) (maxL := 5) (by decide) rfl rfl (Nat.le_of_ble_eq_true rfl) ?_
  intro pp e s m below meth c A Q ls hx hb hts hown hml hlocks htab hsz hP hK hD hE hA hl hAe hQ hret hout
  subst hsz
  have hown : s.vm.findClass RX5 = some m.cls := hown
  have hl : lv_has ls 5 [(0, .ref (ad 0 0 0)), (1, .int d), (2, .int i), (3, .int what)] := hl
  obtain ⟨H, hH⟩ : ∃ H, H = s.heap := ⟨_, rfl⟩
  rw [← hH] at hP ⊢
  have hS : va_S A s.heap H [] := by rw [hH]; exact va_S.rf
  obtain ⟨locs, hlo⟩ : ∃ locs : List Loc, locs = [] := ⟨_, rfl⟩
  rw [← hlo] at hS ⊢
  refine lv_iload_n hx hb dX5_note_0 rfl (lv_at hl 1 rfl) ?_
  refine clx_n (vx_runS (As := [.int d]) (rest := []) ⟨hx, hb, hml, hown, hts⟩ (c_X5_checkDesk l hlt D cy d H.size) (va_cwS 1 hts gX5_note_X5_checkDesk rfl rfl rfl (by decide +kernel) ⟨Nat.le_of_ble_eq_true rfl, Nat.le_of_ble_eq_true rfl⟩) ⟨blU, preU hP hD (List.Perm.refl _) hK hE hS hA⟩ rfl rfl hl.1 rfl (lv_room (Nat.le_of_ble_eq_true rfl)) dX5_note_1 ⟨Nat.le_of_ble_eq_true rfl, Nat.le_of_ble_eq_true rfl⟩) hP hD (List.Perm.refl _) hS hA (fun c_1 q9 ce H locs hq hv hcl hP hD hS => ?_) (fun c_1 H locs hP hD hS => ?_)
  · have hP : va_P D vwCl (wB cy ad V) H := vP_perm hP (List.Perm.refl _)
    have hD : va_D A (wB cy ad V) := vD_perm hD (List.Perm.refl _)
    have ho9 : (o_X5_note V d i what).1 = (o_X5_checkDesk d) := by unfold o_X5_note; simp only [if_neg c_1, if_true, if_false]
    exact vx_widen (k := 3) (n := 18) (Nat.le_of_ble_eq_true rfl) (Nat.le_of_ble_eq_true rfl) (hout _ q9 ce H locs _ ls _ ho9 c_1 hq hv hcl hP hD hS)
  · have hP : va_P D vwCl (wB cy ad V) H := vP_perm hP (List.Perm.refl _)
    have hD : va_D A (wB cy ad V) := vD_perm hD (List.Perm.refl _)
    refine lv_aload_n hx hb dX5_note_4 rfl (lv_at hl 0 rfl) ?_
    refine lv_iload_n hx hb dX5_note_5 rfl (lv_at hl 2 rfl) ?_
    refine clx_n (vx_runV (As := [.int i]) (rest := []) ⟨hx, hb, hml, hown, hts⟩ (c_X5_checkNote l hlt D cy ad V i H.size) (cwV 1 hts gX5_note_X5_checkNote rfl rfl rfl (by decide +kernel) ⟨Nat.le_of_ble_eq_true rfl, Nat.le_of_ble_eq_true rfl⟩) ⟨blU, va_recv hK hP (ci := 4) (q0 := 0) rfl rfl, preU hP hD (pmI _) hK hE hS hA⟩ rfl rfl hl.1 rfl (lv_room (Nat.le_of_ble_eq_true rfl)) dX5_note_6 ⟨Nat.le_of_ble_eq_true rfl, Nat.le_of_ble_eq_true rfl⟩) hP hD (pmI _) hS hA (fun c_2 q9 ce H locs hq hv hcl hP hD hS => ?_) (fun c_2 H locs hP hD hS => ?_)
    · have hP : va_P D vwCl (wB cy ad V) H := vP_perm hP (pmI _).symm
      have hD : va_D A (wB cy ad V) := vD_perm hD (pmI _).symm
      have ho9 : (o_X5_note V d i what).1 = (o_X5_checkNote V i) := by unfold o_X5_note; simp only [if_pos c_1, if_neg c_2, if_true, if_false]
      exact vx_widen (k := 3) (n := 18) (Nat.le_of_ble_eq_true rfl) (Nat.le_of_ble_eq_true rfl) (hout _ q9 ce H locs _ ls _ ho9 c_2 hq hv hcl hP hD hS)
    · have hP : va_P D vwCl (wB cy ad V) H := vP_perm hP (pmI _).symm
      have hD : va_D A (wB cy ad V) := vD_perm hD (pmI _).symm
      have hd := (ckDesk_of c_1)
      rcases hd with hd | hd
      · subst hd
        have hd0 : (0 : Int32) = 0 := by decide
        have hl : lv_has ls 5 [(0, .ref (ad 0 0 0)), (1, .int (0 : Int32)), (2, .int i), (3, .int what)] := hl
        refine lv_aload_n hx hb dX5_note_9 rfl (lv_at hl 0 rfl) ?_
        refine va_get (D := D) (ci := 4) (v := .ref (ad 1 0 0)) (C := RX5) (T := TX5) (N := 6) hx hb hts inX5_note_X5 hown hK hP 0 rfl rfl 1 (by decide) (hts _ (List.mem_of_getElem? (i := 3) rfl)) (fun _ h9 => h9) rfl dX5_note_10 ?_
        refine va_get (D := D) (ci := 2) (v := .ref (((ad 1) 0) 2)) (C := RX3) (T := TX3) (N := 11) hx hb hts inX5_note_X3 hown hK hP 7 rfl rfl 1 (by decide) (hts _ (List.mem_of_getElem? (i := 4) rfl)) (fun _ h9 => h9) rfl dX5_note_13 ?_
        refine lv_iload_n hx hb dX5_note_16 rfl (lv_at hl 1 rfl) ?_
        refine x_aldq (v := .ref (((ad 1) 1) 0)) hx hb hK hP 9 2 rfl rfl (vp_c (by decide)) rfl dX5_note_17 ?_
        refine lv_astore (lv' := [(4, .ref (((ad 1) 1) 0)), (0, .ref (ad 0 0 0)), (1, .int (0 : Int32)), (2, .int i), (3, .int what)]) hx hb dX5_note_18 hl (by decide) rfl (fun ls hl => ?_)
        refine lv_iload_n hx hb dX5_note_20 rfl (lv_at hl 4 rfl) ?_
        by_cases c_3 : what = 0
        · refine lv_tableIn (tgt := 52) (off := 31) hx hb dX5_note_21 (by rw [c_3]; decide) (by rw [c_3]; decide) (by rw [c_3]; rfl) (by decide) ?_
          refine lv_aload hx hb dX5_note_52 (lv_at hl 0 rfl) ?_
          refine va_get (D := D) (ci := 0) (v := .ref (((ad 1) 1) 2)) (C := RX0) (T := TX0) (N := 8) hx hb hts inX5_note_X0 hown hK hP 14 rfl rfl 1 (by decide) (hts _ (List.mem_of_getElem? (i := 5) rfl)) (fun _ h9 => h9) rfl dX5_note_54 ?_
          refine lv_iload_n hx hb dX5_note_57 rfl (lv_at hl 3 rfl) ?_
          refine x_iald (f := (V.2.1.2.1 1)) (j := i.toNatClampNeg) hx hb hK hP 16 0 rfl rfl rfl (ckNote_of c_2 hsz2) dX5_note_58 ?_
          refine W.widen (k := 3) (n := 18) (Nat.le_of_ble_eq_true rfl) (Nat.le_of_ble_eq_true rfl) ?_
          have hr9 : (o_X5_note V (0 : Int32) i what) = ((0 : Int32), ((V.2.1.2.1 1) i.toNatClampNeg)) := by unfold o_X5_note; simp only [if_pos c_1, if_pos c_2, if_pos hd0, if_pos c_3, if_true, if_false]
          exact hret _ H locs _ ls hr9 hP hD hS dX5_note_59
        · by_cases c_4 : what = 1
          · refine lv_tableIn (tgt := 60) (off := 39) hx hb dX5_note_21 (by rw [c_4]; decide) (by rw [c_4]; decide) (by rw [c_4]; rfl) (by decide) ?_
            refine lv_aload hx hb dX5_note_60 (lv_at hl 0 rfl) ?_
            refine va_get (D := D) (ci := 0) (v := .ref (((ad 1) 1) 3)) (C := RX0) (T := TX0) (N := 8) hx hb hts inX5_note_X0 hown hK hP 14 rfl rfl 2 (by decide) (hts _ (List.mem_of_getElem? (i := 6) rfl)) (fun _ h9 => h9) rfl dX5_note_62 ?_
            refine lv_iload_n hx hb dX5_note_65 rfl (lv_at hl 3 rfl) ?_
            refine x_iald (f := (V.2.1.2.1 2)) (j := i.toNatClampNeg) hx hb hK hP 17 0 rfl rfl rfl (ckNote_of c_2 hsz2) dX5_note_66 ?_
            refine W.widen (k := 3) (n := 18) (Nat.le_of_ble_eq_true rfl) (Nat.le_of_ble_eq_true rfl) ?_
            have hr9 : (o_X5_note V (0 : Int32) i what) = ((0 : Int32), ((V.2.1.2.1 2) i.toNatClampNeg)) := by unfold o_X5_note; simp only [if_pos c_1, if_pos c_2, if_pos hd0, if_neg c_3, if_pos c_4, if_true, if_false]
            exact hret _ H locs _ ls hr9 hP hD hS dX5_note_67
          · by_cases c_5 : what = 2
            · refine lv_tableIn (tgt := 68) (off := 47) hx hb dX5_note_21 (by rw [c_5]; decide) (by rw [c_5]; decide) (by rw [c_5]; rfl) (by decide) ?_
              refine lv_aload hx hb dX5_note_68 (lv_at hl 0 rfl) ?_
              refine va_get (D := D) (ci := 0) (v := .ref (((ad 1) 1) 4)) (C := RX0) (T := TX0) (N := 8) hx hb hts inX5_note_X0 hown hK hP 14 rfl rfl 3 (by decide) (hts _ (List.mem_of_getElem? (i := 7) rfl)) (fun _ h9 => h9) rfl dX5_note_70 ?_
              refine lv_iload_n hx hb dX5_note_73 rfl (lv_at hl 3 rfl) ?_
              refine x_iald (f := (V.2.1.2.1 3)) (j := i.toNatClampNeg) hx hb hK hP 18 0 rfl rfl rfl (ckNote_of c_2 hsz2) dX5_note_74 ?_
              refine W.widen (k := 3) (n := 18) (Nat.le_of_ble_eq_true rfl) (Nat.le_of_ble_eq_true rfl) ?_
              have hr9 : (o_X5_note V (0 : Int32) i what) = ((0 : Int32), ((V.2.1.2.1 3) i.toNatClampNeg)) := by unfold o_X5_note; simp only [if_pos c_1, if_pos c_2, if_pos hd0, if_neg c_3, if_neg c_4, if_pos c_5, if_true, if_false]
              exact hret _ H locs _ ls hr9 hP hD hS dX5_note_75
            · by_cases c_6 : what = 3
              · refine lv_tableIn (tgt := 76) (off := 55) hx hb dX5_note_21 (by rw [c_6]; decide) (by rw [c_6]; decide) (by rw [c_6]; rfl) (by decide) ?_
                refine lv_aload hx hb dX5_note_76 (lv_at hl 0 rfl) ?_
                refine va_get (D := D) (ci := 0) (v := .ref (((ad 1) 1) 5)) (C := RX0) (T := TX0) (N := 8) hx hb hts inX5_note_X0 hown hK hP 14 rfl rfl 4 (by decide) (hts _ (List.mem_of_getElem? (i := 8) rfl)) (fun _ h9 => h9) rfl dX5_note_78 ?_
                refine lv_iload_n hx hb dX5_note_81 rfl (lv_at hl 3 rfl) ?_
                refine x_iald (f := (V.2.1.2.1 4)) (j := i.toNatClampNeg) hx hb hK hP 19 0 rfl rfl rfl (ckNote_of c_2 hsz2) dX5_note_82 ?_
                refine W.widen (k := 3) (n := 18) (Nat.le_of_ble_eq_true rfl) (Nat.le_of_ble_eq_true rfl) ?_
                have hr9 : (o_X5_note V (0 : Int32) i what) = ((0 : Int32), ((V.2.1.2.1 4) i.toNatClampNeg)) := by unfold o_X5_note; simp only [if_pos c_1, if_pos c_2, if_pos hd0, if_neg c_3, if_neg c_4, if_neg c_5, if_pos c_6, if_true, if_false]
                exact hret _ H locs _ ls hr9 hP hD hS dX5_note_83
              · have hso : what.toInt < 0 ∨ 3 < what.toInt := sw_out4 what c_3 c_4 c_5 c_6
                refine lv_tableOut (tgt := 84) hx hb dX5_note_21 hso (by decide) ?_
                have ho9 : (o_X5_note V (0 : Int32) i what).1 = (-9999002 : Int32) := by unfold o_X5_note; simp only [if_pos c_1, if_pos c_2, if_pos hd0, if_neg c_3, if_neg c_4, if_neg c_5, if_neg c_6, if_true, if_false]
                rw [hQ]
                exact thr_2 (text := "no such number of a note") hx hb hlt hown (hts _ (List.mem_of_getElem? (i := 1) rfl)) (hts _ (List.mem_of_getElem? (i := 2) rfl)) (fun w hw => hts w (List.mem_cons_of_mem _ (List.mem_append_left _ (List.mem_append_right _ hw)))) (by decide +kernel) hE hS (hl.1.trans hml.symm) dX5_note_84 dX5_note_87 dX5_note_88 dX5_note_90 dX5_note_93 htab (Nat.le_of_ble_eq_true rfl) (Nat.le_of_ble_eq_true rfl) (Nat.le_of_ble_eq_true rfl) (Nat.le_of_ble_eq_true rfl) hlocks hAe ho9 hP hD (Nat.le_of_ble_eq_true rfl) (Nat.le_of_ble_eq_true rfl)
      · subst hd
        have hd1 : ¬ (1 : Int32) = 0 := by decide
        have hl : lv_has ls 5 [(0, .ref (ad 0 0 0)), (1, .int (1 : Int32)), (2, .int i), (3, .int what)] := hl
        refine lv_aload_n hx hb dX5_note_9 rfl (lv_at hl 0 rfl) ?_
        refine va_get (D := D) (ci := 4) (v := .ref (ad 1 0 0)) (C := RX5) (T := TX5) (N := 6) hx hb hts inX5_note_X5 hown hK hP 0 rfl rfl 1 (by decide) (hts _ (List.mem_of_getElem? (i := 3) rfl)) (fun _ h9 => h9) rfl dX5_note_10 ?_
        refine va_get (D := D) (ci := 2) (v := .ref (((ad 1) 0) 2)) (C := RX3) (T := TX3) (N := 11) hx hb hts inX5_note_X3 hown hK hP 7 rfl rfl 1 (by decide) (hts _ (List.mem_of_getElem? (i := 4) rfl)) (fun _ h9 => h9) rfl dX5_note_13 ?_
        refine lv_iload_n hx hb dX5_note_16 rfl (lv_at hl 1 rfl) ?_
        refine x_aldq (v := .ref (((ad 1) 2) 0)) hx hb hK hP 9 2 rfl rfl (vp_c (by decide)) rfl dX5_note_17 ?_
        refine lv_astore (lv' := [(4, .ref (((ad 1) 2) 0)), (0, .ref (ad 0 0 0)), (1, .int (1 : Int32)), (2, .int i), (3, .int what)]) hx hb dX5_note_18 hl (by decide) rfl (fun ls hl => ?_)
        refine lv_iload_n hx hb dX5_note_20 rfl (lv_at hl 4 rfl) ?_
        by_cases c_7 : what = 0
        · refine lv_tableIn (tgt := 52) (off := 31) hx hb dX5_note_21 (by rw [c_7]; decide) (by rw [c_7]; decide) (by rw [c_7]; rfl) (by decide) ?_
          refine lv_aload hx hb dX5_note_52 (lv_at hl 0 rfl) ?_
          refine va_get (D := D) (ci := 0) (v := .ref (((ad 1) 2) 2)) (C := RX0) (T := TX0) (N := 8) hx hb hts inX5_note_X0 hown hK hP 21 rfl rfl 1 (by decide) (hts _ (List.mem_of_getElem? (i := 5) rfl)) (fun _ h9 => h9) rfl dX5_note_54 ?_
          refine lv_iload_n hx hb dX5_note_57 rfl (lv_at hl 3 rfl) ?_
          refine x_iald (f := (V.2.1.2.2 1)) (j := i.toNatClampNeg) hx hb hK hP 23 0 rfl rfl rfl (ckNote_of c_2 hsz2) dX5_note_58 ?_
          refine W.widen (k := 3) (n := 18) (Nat.le_of_ble_eq_true rfl) (Nat.le_of_ble_eq_true rfl) ?_
          have hr9 : (o_X5_note V (1 : Int32) i what) = ((0 : Int32), ((V.2.1.2.2 1) i.toNatClampNeg)) := by unfold o_X5_note; simp only [if_pos c_1, if_pos c_2, if_neg hd1, if_pos c_7, if_true, if_false]
          exact hret _ H locs _ ls hr9 hP hD hS dX5_note_59
        · by_cases c_8 : what = 1
          · refine lv_tableIn (tgt := 60) (off := 39) hx hb dX5_note_21 (by rw [c_8]; decide) (by rw [c_8]; decide) (by rw [c_8]; rfl) (by decide) ?_
            refine lv_aload hx hb dX5_note_60 (lv_at hl 0 rfl) ?_
            refine va_get (D := D) (ci := 0) (v := .ref (((ad 1) 2) 3)) (C := RX0) (T := TX0) (N := 8) hx hb hts inX5_note_X0 hown hK hP 21 rfl rfl 2 (by decide) (hts _ (List.mem_of_getElem? (i := 6) rfl)) (fun _ h9 => h9) rfl dX5_note_62 ?_
            refine lv_iload_n hx hb dX5_note_65 rfl (lv_at hl 3 rfl) ?_
            refine x_iald (f := (V.2.1.2.2 2)) (j := i.toNatClampNeg) hx hb hK hP 24 0 rfl rfl rfl (ckNote_of c_2 hsz2) dX5_note_66 ?_
            refine W.widen (k := 3) (n := 18) (Nat.le_of_ble_eq_true rfl) (Nat.le_of_ble_eq_true rfl) ?_
            have hr9 : (o_X5_note V (1 : Int32) i what) = ((0 : Int32), ((V.2.1.2.2 2) i.toNatClampNeg)) := by unfold o_X5_note; simp only [if_pos c_1, if_pos c_2, if_neg hd1, if_neg c_7, if_pos c_8, if_true, if_false]
            exact hret _ H locs _ ls hr9 hP hD hS dX5_note_67
          · by_cases c_9 : what = 2
            · refine lv_tableIn (tgt := 68) (off := 47) hx hb dX5_note_21 (by rw [c_9]; decide) (by rw [c_9]; decide) (by rw [c_9]; rfl) (by decide) ?_
              refine lv_aload hx hb dX5_note_68 (lv_at hl 0 rfl) ?_
              refine va_get (D := D) (ci := 0) (v := .ref (((ad 1) 2) 4)) (C := RX0) (T := TX0) (N := 8) hx hb hts inX5_note_X0 hown hK hP 21 rfl rfl 3 (by decide) (hts _ (List.mem_of_getElem? (i := 7) rfl)) (fun _ h9 => h9) rfl dX5_note_70 ?_
              refine lv_iload_n hx hb dX5_note_73 rfl (lv_at hl 3 rfl) ?_
              refine x_iald (f := (V.2.1.2.2 3)) (j := i.toNatClampNeg) hx hb hK hP 25 0 rfl rfl rfl (ckNote_of c_2 hsz2) dX5_note_74 ?_
              refine W.widen (k := 3) (n := 18) (Nat.le_of_ble_eq_true rfl) (Nat.le_of_ble_eq_true rfl) ?_
              have hr9 : (o_X5_note V (1 : Int32) i what) = ((0 : Int32), ((V.2.1.2.2 3) i.toNatClampNeg)) := by unfold o_X5_note; simp only [if_pos c_1, if_pos c_2, if_neg hd1, if_neg c_7, if_neg c_8, if_pos c_9, if_true, if_false]
              exact hret _ H locs _ ls hr9 hP hD hS dX5_note_75
            · by_cases c_10 : what = 3
              · refine lv_tableIn (tgt := 76) (off := 55) hx hb dX5_note_21 (by rw [c_10]; decide) (by rw [c_10]; decide) (by rw [c_10]; rfl) (by decide) ?_
                refine lv_aload hx hb dX5_note_76 (lv_at hl 0 rfl) ?_
                refine va_get (D := D) (ci := 0) (v := .ref (((ad 1) 2) 5)) (C := RX0) (T := TX0) (N := 8) hx hb hts inX5_note_X0 hown hK hP 21 rfl rfl 4 (by decide) (hts _ (List.mem_of_getElem? (i := 8) rfl)) (fun _ h9 => h9) rfl dX5_note_78 ?_
                refine lv_iload_n hx hb dX5_note_81 rfl (lv_at hl 3 rfl) ?_
                refine x_iald (f := (V.2.1.2.2 4)) (j := i.toNatClampNeg) hx hb hK hP 26 0 rfl rfl rfl (ckNote_of c_2 hsz2) dX5_note_82 ?_
                refine W.widen (k := 3) (n := 18) (Nat.le_of_ble_eq_true rfl) (Nat.le_of_ble_eq_true rfl) ?_
                have hr9 : (o_X5_note V (1 : Int32) i what) = ((0 : Int32), ((V.2.1.2.2 4) i.toNatClampNeg)) := by unfold o_X5_note; simp only [if_pos c_1, if_pos c_2, if_neg hd1, if_neg c_7, if_neg c_8, if_neg c_9, if_pos c_10, if_true, if_false]
                exact hret _ H locs _ ls hr9 hP hD hS dX5_note_83
              · have hso : what.toInt < 0 ∨ 3 < what.toInt := sw_out4 what c_7 c_8 c_9 c_10
                refine lv_tableOut (tgt := 84) hx hb dX5_note_21 hso (by decide) ?_
                have ho9 : (o_X5_note V (1 : Int32) i what).1 = (-9999002 : Int32) := by unfold o_X5_note; simp only [if_pos c_1, if_pos c_2, if_neg hd1, if_neg c_7, if_neg c_8, if_neg c_9, if_neg c_10, if_true, if_false]
                rw [hQ]
                exact thr_2 (text := "no such number of a note") hx hb hlt hown (hts _ (List.mem_of_getElem? (i := 1) rfl)) (hts _ (List.mem_of_getElem? (i := 2) rfl)) (fun w hw => hts w (List.mem_cons_of_mem _ (List.mem_append_left _ (List.mem_append_right _ hw)))) (by decide +kernel) hE hS (hl.1.trans hml.symm) dX5_note_84 dX5_note_87 dX5_note_88 dX5_note_90 dX5_note_93 htab (Nat.le_of_ble_eq_true rfl) (Nat.le_of_ble_eq_true rfl) (Nat.le_of_ble_eq_true rfl) (Nat.le_of_ble_eq_true rfl) hlocks hAe ho9 hP hD (Nat.le_of_ble_eq_true rfl) (Nat.le_of_ble_eq_true rfl)

def o_X5_place (V : BV) (pl : Int32) (what : Int32) : Int32 × Int32 := (if (o_X5_checkPlace pl) = 0 then (if what = 0 then ((0 : Int32), ((V.2.1.1 2) pl.toNatClampNeg)) else (if what = 1 then ((0 : Int32), ((V.2.1.1 3) pl.toNatClampNeg)) else (if what = 2 then ((0 : Int32), ((V.2.1.1 4) pl.toNatClampNeg)) else (if what = 3 then ((0 : Int32), ((V.2.1.1 1) pl.toNatClampNeg)) else (if what = 4 then ((0 : Int32), (if (r_X3_guessFor V.2.1 pl) = 0 then (0 : Int32) else (1 : Int32))) else ((-9999002 : Int32), (0 : Int32))))))) else ((o_X5_checkPlace pl), (0 : Int32)))
abbrev rX5_place : Room := { frames := 7, cells := 2, slots := 12, locals := 110 }
theorem inX5_place_X3 : ∀ w ∈ u_ws RX3 TX3 11, w ∈ wsX5_place := by decide +kernel
theorem inX5_place_X5 : ∀ w ∈ u_ws RX5 TX5 6, w ∈ wsX5_place := by decide +kernel
set_option maxHeartbeats 4000000 in
set_option maxRecDepth 100000 in
theorem c_X5_place (l : Launch) (hlt : l.stackTraces = false) (D : va_G) (cy : Nat → ClassId) (ad : AD) (V : BV) (pl : Int32) (what : Int32) (sz : Nat) (hsz2 : szok (V.2.1.1 0 0)) : CX l yX5_place wsX5_place rX5_place D cy [.ref (ad 0 0 0), .int pl, .int what] (wB cy ad V) sz (o_X5_place V pl what) (wB cy ad V) 2 12 := by
  refine stx_i (ty := .int) (cc := cX5_place) (maxL := 3) (by decide) rfl rfl (Nat.le_of_ble_eq_true rfl) ?_
  intro pp e s m below meth c A Q ls hx hb hts hown hml hlocks htab hsz hP hK hD hE hA hl hAe hQ hret hout
  subst hsz
  have hown : s.vm.findClass RX5 = some m.cls := hown
  have hl : lv_has ls 3 [(0, .ref (ad 0 0 0)), (1, .int pl), (2, .int what)] := hl
  obtain ⟨H, hH⟩ : ∃ H, H = s.heap := ⟨_, rfl⟩
  rw [← hH] at hP ⊢
  have hS : va_S A s.heap H [] := by rw [hH]; exact va_S.rf
  obtain ⟨locs, hlo⟩ : ∃ locs : List Loc, locs = [] := ⟨_, rfl⟩
  rw [← hlo] at hS ⊢
  refine lv_iload_n hx hb dX5_place_0 rfl (lv_at hl 1 rfl) ?_
  refine clx_n (vx_runS (As := [.int pl]) (rest := []) ⟨hx, hb, hml, hown, hts⟩ (c_X5_checkPlace l hlt D cy pl H.size) (va_cwS 1 hts gX5_place_X5_checkPlace rfl rfl rfl (by decide +kernel) ⟨Nat.le_of_ble_eq_true rfl, Nat.le_of_ble_eq_true rfl⟩) ⟨blU, preU hP hD (List.Perm.refl _) hK hE hS hA⟩ rfl rfl hl.1 rfl (lv_room (Nat.le_of_ble_eq_true rfl)) dX5_place_1 ⟨Nat.le_of_ble_eq_true rfl, Nat.le_of_ble_eq_true rfl⟩) hP hD (List.Perm.refl _) hS hA (fun c_1 q9 ce H locs hq hv hcl hP hD hS => ?_) (fun c_1 H locs hP hD hS => ?_)
  · have hP : va_P D vwCl (wB cy ad V) H := vP_perm hP (List.Perm.refl _)
    have hD : va_D A (wB cy ad V) := vD_perm hD (List.Perm.refl _)
    have ho9 : (o_X5_place V pl what).1 = (o_X5_checkPlace pl) := by unfold o_X5_place; simp only [if_neg c_1, if_true, if_false]
    exact vx_widen (k := 2) (n := 12) (Nat.le_of_ble_eq_true rfl) (Nat.le_of_ble_eq_true rfl) (hout _ q9 ce H locs _ ls _ ho9 c_1 hq hv hcl hP hD hS)
  · have hP : va_P D vwCl (wB cy ad V) H := vP_perm hP (List.Perm.refl _)
    have hD : va_D A (wB cy ad V) := vD_perm hD (List.Perm.refl _)
    refine lv_iload_n hx hb dX5_place_4 rfl (lv_at hl 2 rfl) ?_
    by_cases c_2 : what = 0
    · refine lv_tableIn (tgt := 40) (off := 35) hx hb dX5_place_5 (by rw [c_2]; decide) (by rw [c_2]; decide) (by rw [c_2]; rfl) (by decide) ?_
      refine lv_aload_n hx hb dX5_place_40 rfl (lv_at hl 0 rfl) ?_
      refine va_get (D := D) (ci := 4) (v := .ref (ad 1 0 0)) (C := RX5) (T := TX5) (N := 6) hx hb hts inX5_place_X5 hown hK hP 0 rfl rfl 1 (by decide) (hts _ (List.mem_of_getElem? (i := 3) rfl)) (fun _ h9 => h9) rfl dX5_place_41 ?_
      refine va_get (D := D) (ci := 2) (v := .ref (((ad 1) 0) 4)) (C := RX3) (T := TX3) (N := 11) hx hb hts inX5_place_X3 hown hK hP 7 rfl rfl 3 (by decide) (hts _ (List.mem_of_getElem? (i := 4) rfl)) (fun _ h9 => h9) rfl dX5_place_44 ?_
      refine lv_iload_n hx hb dX5_place_47 rfl (lv_at hl 1 rfl) ?_
      refine x_iald (f := (V.2.1.1 2)) (j := pl.toNatClampNeg) hx hb hK hP 11 0 rfl rfl rfl (ckPlace_of c_1) dX5_place_48 ?_
      refine W.widen (k := 2) (n := 12) (Nat.le_of_ble_eq_true rfl) (Nat.le_of_ble_eq_true rfl) ?_
      have hr9 : (o_X5_place V pl what) = ((0 : Int32), ((V.2.1.1 2) pl.toNatClampNeg)) := by unfold o_X5_place; simp only [if_pos c_1, if_pos c_2, if_true, if_false]
      exact hret _ H locs _ ls hr9 hP hD hS dX5_place_49
    · by_cases c_3 : what = 1
      · refine lv_tableIn (tgt := 50) (off := 45) hx hb dX5_place_5 (by rw [c_3]; decide) (by rw [c_3]; decide) (by rw [c_3]; rfl) (by decide) ?_
        refine lv_aload_n hx hb dX5_place_50 rfl (lv_at hl 0 rfl) ?_
        refine va_get (D := D) (ci := 4) (v := .ref (ad 1 0 0)) (C := RX5) (T := TX5) (N := 6) hx hb hts inX5_place_X5 hown hK hP 0 rfl rfl 1 (by decide) (hts _ (List.mem_of_getElem? (i := 3) rfl)) (fun _ h9 => h9) rfl dX5_place_51 ?_
        refine va_get (D := D) (ci := 2) (v := .ref (((ad 1) 0) 5)) (C := RX3) (T := TX3) (N := 11) hx hb hts inX5_place_X3 hown hK hP 7 rfl rfl 4 (by decide) (hts _ (List.mem_of_getElem? (i := 5) rfl)) (fun _ h9 => h9) rfl dX5_place_54 ?_
        refine lv_iload_n hx hb dX5_place_57 rfl (lv_at hl 1 rfl) ?_
        refine x_iald (f := (V.2.1.1 3)) (j := pl.toNatClampNeg) hx hb hK hP 12 0 rfl rfl rfl (ckPlace_of c_1) dX5_place_58 ?_
        refine W.widen (k := 2) (n := 12) (Nat.le_of_ble_eq_true rfl) (Nat.le_of_ble_eq_true rfl) ?_
        have hr9 : (o_X5_place V pl what) = ((0 : Int32), ((V.2.1.1 3) pl.toNatClampNeg)) := by unfold o_X5_place; simp only [if_pos c_1, if_neg c_2, if_pos c_3, if_true, if_false]
        exact hret _ H locs _ ls hr9 hP hD hS dX5_place_59
      · by_cases c_4 : what = 2
        · refine lv_tableIn (tgt := 60) (off := 55) hx hb dX5_place_5 (by rw [c_4]; decide) (by rw [c_4]; decide) (by rw [c_4]; rfl) (by decide) ?_
          refine lv_aload_n hx hb dX5_place_60 rfl (lv_at hl 0 rfl) ?_
          refine va_get (D := D) (ci := 4) (v := .ref (ad 1 0 0)) (C := RX5) (T := TX5) (N := 6) hx hb hts inX5_place_X5 hown hK hP 0 rfl rfl 1 (by decide) (hts _ (List.mem_of_getElem? (i := 3) rfl)) (fun _ h9 => h9) rfl dX5_place_61 ?_
          refine va_get (D := D) (ci := 2) (v := .ref (((ad 1) 0) 6)) (C := RX3) (T := TX3) (N := 11) hx hb hts inX5_place_X3 hown hK hP 7 rfl rfl 5 (by decide) (hts _ (List.mem_of_getElem? (i := 6) rfl)) (fun _ h9 => h9) rfl dX5_place_64 ?_
          refine lv_iload_n hx hb dX5_place_67 rfl (lv_at hl 1 rfl) ?_
          refine x_iald (f := (V.2.1.1 4)) (j := pl.toNatClampNeg) hx hb hK hP 13 0 rfl rfl rfl (ckPlace_of c_1) dX5_place_68 ?_
          refine W.widen (k := 2) (n := 12) (Nat.le_of_ble_eq_true rfl) (Nat.le_of_ble_eq_true rfl) ?_
          have hr9 : (o_X5_place V pl what) = ((0 : Int32), ((V.2.1.1 4) pl.toNatClampNeg)) := by unfold o_X5_place; simp only [if_pos c_1, if_neg c_2, if_neg c_3, if_pos c_4, if_true, if_false]
          exact hret _ H locs _ ls hr9 hP hD hS dX5_place_69
        · by_cases c_5 : what = 3
          · refine lv_tableIn (tgt := 70) (off := 65) hx hb dX5_place_5 (by rw [c_5]; decide) (by rw [c_5]; decide) (by rw [c_5]; rfl) (by decide) ?_
            refine lv_aload_n hx hb dX5_place_70 rfl (lv_at hl 0 rfl) ?_
            refine va_get (D := D) (ci := 4) (v := .ref (ad 1 0 0)) (C := RX5) (T := TX5) (N := 6) hx hb hts inX5_place_X5 hown hK hP 0 rfl rfl 1 (by decide) (hts _ (List.mem_of_getElem? (i := 3) rfl)) (fun _ h9 => h9) rfl dX5_place_71 ?_
            refine va_get (D := D) (ci := 2) (v := .ref (((ad 1) 0) 3)) (C := RX3) (T := TX3) (N := 11) hx hb hts inX5_place_X3 hown hK hP 7 rfl rfl 2 (by decide) (hts _ (List.mem_of_getElem? (i := 7) rfl)) (fun _ h9 => h9) rfl dX5_place_74 ?_
            refine lv_iload_n hx hb dX5_place_77 rfl (lv_at hl 1 rfl) ?_
            refine x_iald (f := (V.2.1.1 1)) (j := pl.toNatClampNeg) hx hb hK hP 10 0 rfl rfl rfl (ckPlace_of c_1) dX5_place_78 ?_
            refine W.widen (k := 2) (n := 12) (Nat.le_of_ble_eq_true rfl) (Nat.le_of_ble_eq_true rfl) ?_
            have hr9 : (o_X5_place V pl what) = ((0 : Int32), ((V.2.1.1 1) pl.toNatClampNeg)) := by unfold o_X5_place; simp only [if_pos c_1, if_neg c_2, if_neg c_3, if_neg c_4, if_pos c_5, if_true, if_false]
            exact hret _ H locs _ ls hr9 hP hD hS dX5_place_79
          · by_cases c_6 : what = 4
            · refine lv_tableIn (tgt := 80) (off := 75) hx hb dX5_place_5 (by rw [c_6]; decide) (by rw [c_6]; decide) (by rw [c_6]; rfl) (by decide) ?_
              refine lv_aload_n hx hb dX5_place_80 rfl (lv_at hl 0 rfl) ?_
              refine va_get (D := D) (ci := 4) (v := .ref (ad 1 0 0)) (C := RX5) (T := TX5) (N := 6) hx hb hts inX5_place_X5 hown hK hP 0 rfl rfl 1 (by decide) (hts _ (List.mem_of_getElem? (i := 3) rfl)) (fun _ h9 => h9) rfl dX5_place_81 ?_
              refine lv_iload_n hx hb dX5_place_84 rfl (lv_at hl 1 rfl) ?_
              refine cl_i (va_runV (As := [.int pl]) (rest := []) ⟨hx, hb, hml, hown, hts⟩ (c_X3_guessFor l D cy (ad 1) V.2.1 pl H.size (ckPlace_of c_1) hsz2) (cwV 1 hts gX5_place_X3_guessFor rfl rfl rfl (by decide +kernel) ⟨Nat.le_of_ble_eq_true rfl, Nat.le_of_ble_eq_true rfl⟩) ⟨blU, va_recv hK hP (ci := 2) (q0 := 7) rfl rfl, preU hP hD (pmB (bB cy ad V) 2 _ (cS cy (ad 1) V.2.1) rfl).1 hK hE hS hA⟩ rfl rfl hl.1 rfl (lv_room (Nat.le_of_ble_eq_true rfl)) dX5_place_85 ⟨Nat.le_of_ble_eq_true rfl, Nat.le_of_ble_eq_true rfl⟩) hP hD (pmB (bB cy ad V) 2 _ (cS cy (ad 1) V.2.1) rfl).1 hS hA (fun H locs hP hD hS => ?_)
              have hP : va_P D vwCl (wB cy ad V) H := vP_perm hP (pmB (bB cy ad V) 2 _ (cS cy (ad 1) V.2.1) rfl).2
              have hD : va_D A (wB cy ad V) := vD_perm hD (pmB (bB cy ad V) 2 _ (cS cy (ad 1) V.2.1) rfl).2
              have J96_8 : ∀ (z_8 : Int32) (hz_8 : z_8 = (if (r_X3_guessFor V.2.1 pl) = 0 then (0 : Int32) else (1 : Int32))) (H : Heap) (locs : List Loc), va_P D vwCl (wB cy ad V) H → va_D A (wB cy ad V) → va_S A s.heap H locs → ∀ ls : Array Slot, lv_has ls 3 [(0, .ref (ad 0 0 0)), (1, .int pl), (2, .int what)] → W pp l e rX5_place s m ([.ref (ad 0 0 0), .int pl, .int what] : List Value).toArray below meth c H locs 1 6 Q (F0 m 96 ls [.int z_8]) := by
                intro z_8 hz_8 H locs hP hD hS ls hl
                subst hz_8
                refine W.widen (k := 2) (n := 12) (Nat.le_of_ble_eq_true rfl) (Nat.le_of_ble_eq_true rfl) ?_
                have hr9 : (o_X5_place V pl what) = ((0 : Int32), (if (r_X3_guessFor V.2.1 pl) = 0 then (0 : Int32) else (1 : Int32))) := by unfold o_X5_place; simp only [if_pos c_1, if_neg c_2, if_neg c_3, if_neg c_4, if_neg c_5, if_pos c_6, if_true, if_false]
                exact hret _ H locs _ ls hr9 hP hD hS dX5_place_96
              refine lv_if_eq (tgt := 95) hx hb dX5_place_88 (by decide) (fun c_7 => ?_) (fun c_7 => ?_)
              · refine lv_iconst (v := 0) hx hb dX5_place_95 (by decide) ?_
                exact J96_8 (0 : Int32) (by simp only [if_pos c_7, if_true, if_false]) H locs hP hD hS ls (lv_sub hl [0, 1, 2] rfl)
              · refine lv_iconst (v := 1) hx hb dX5_place_91 (by decide) ?_
                refine lv_goto (tgt := 96) hx hb dX5_place_92 (by decide) ?_
                exact J96_8 (1 : Int32) (by simp only [if_neg c_7, if_true, if_false]) H locs hP hD hS ls (lv_sub hl [0, 1, 2] rfl)
            · have hso : what.toInt < 0 ∨ 4 < what.toInt := sw_out5 what c_2 c_3 c_4 c_5 c_6
              refine lv_tableOut (tgt := 97) hx hb dX5_place_5 hso (by decide) ?_
              have ho9 : (o_X5_place V pl what).1 = (-9999002 : Int32) := by unfold o_X5_place; simp only [if_pos c_1, if_neg c_2, if_neg c_3, if_neg c_4, if_neg c_5, if_neg c_6, if_true, if_false]
              rw [hQ]
              exact thr_2 (text := "no such number of a place") hx hb hlt hown (hts _ (List.mem_of_getElem? (i := 1) rfl)) (hts _ (List.mem_of_getElem? (i := 2) rfl)) (fun w hw => hts w (List.mem_cons_of_mem _ (List.mem_append_left _ (List.mem_append_right _ hw)))) (by decide +kernel) hE hS (hl.1.trans hml.symm) dX5_place_97 dX5_place_100 dX5_place_101 dX5_place_103 dX5_place_106 htab (Nat.le_of_ble_eq_true rfl) (Nat.le_of_ble_eq_true rfl) (Nat.le_of_ble_eq_true rfl) (Nat.le_of_ble_eq_true rfl) hlocks hAe ho9 hP hD (Nat.le_of_ble_eq_true rfl) (Nat.le_of_ble_eq_true rfl)

def o_X5_path (V : BV) (d : Int32) (pl : Int32) : Int32 × Int32 := (if (o_X5_checkDesk d) = 0 then (if (o_X5_checkPlace pl) = 0 then (if d = 0 then ((0 : Int32), (r_X0_pathFor V.2.1.2.1 pl)) else ((0 : Int32), (r_X0_pathFor V.2.1.2.2 pl))) else ((o_X5_checkPlace pl), (0 : Int32))) else ((o_X5_checkDesk d), (0 : Int32)))
abbrev rX5_path : Room := { frames := 7, cells := 2, slots := 12, locals := 110 }
theorem inX5_path_X3 : ∀ w ∈ u_ws RX3 TX3 11, w ∈ wsX5_path := by decide +kernel
theorem inX5_path_X5 : ∀ w ∈ u_ws RX5 TX5 6, w ∈ wsX5_path := by decide +kernel
set_option maxHeartbeats 4000000 in
set_option maxRecDepth 100000 in
theorem c_X5_path (l : Launch) (hlt : l.stackTraces = false) (D : va_G) (cy : Nat → ClassId) (ad : AD) (V : BV) (d : Int32) (pl : Int32) (sz : Nat)  : CX l yX5_path wsX5_path rX5_path D cy [.ref (ad 0 0 0), .int d, .int pl] (wB cy ad V) sz (o_X5_path V d pl) (wB cy ad V) 2 12 := by
  refine stx_i (ty := .int) (cc := cX5_path) (maxL := 3) (by decide) rfl rfl (Nat.le_of_ble_eq_true rfl) ?_
  intro pp e s m below meth c A Q ls hx hb hts hown hml hlocks htab hsz hP hK hD hE hA hl hAe hQ hret hout
  subst hsz
  have hown : s.vm.findClass RX5 = some m.cls := hown
  have hl : lv_has ls 3 [(0, .ref (ad 0 0 0)), (1, .int d), (2, .int pl)] := hl
  obtain ⟨H, hH⟩ : ∃ H, H = s.heap := ⟨_, rfl⟩
  rw [← hH] at hP ⊢
  have hS : va_S A s.heap H [] := by rw [hH]; exact va_S.rf
  obtain ⟨locs, hlo⟩ : ∃ locs : List Loc, locs = [] := ⟨_, rfl⟩
  rw [← hlo] at hS ⊢
  refine lv_iload_n hx hb dX5_path_0 rfl (lv_at hl 1 rfl) ?_
  refine clx_n (vx_runS (As := [.int d]) (rest := []) ⟨hx, hb, hml, hown, hts⟩ (c_X5_checkDesk l hlt D cy d H.size) (va_cwS 1 hts gX5_path_X5_checkDesk rfl rfl rfl (by decide +kernel) ⟨Nat.le_of_ble_eq_true rfl, Nat.le_of_ble_eq_true rfl⟩) ⟨blU, preU hP hD (List.Perm.refl _) hK hE hS hA⟩ rfl rfl hl.1 rfl (lv_room (Nat.le_of_ble_eq_true rfl)) dX5_path_1 ⟨Nat.le_of_ble_eq_true rfl, Nat.le_of_ble_eq_true rfl⟩) hP hD (List.Perm.refl _) hS hA (fun c_1 q9 ce H locs hq hv hcl hP hD hS => ?_) (fun c_1 H locs hP hD hS => ?_)
  · have hP : va_P D vwCl (wB cy ad V) H := vP_perm hP (List.Perm.refl _)
    have hD : va_D A (wB cy ad V) := vD_perm hD (List.Perm.refl _)
    have ho9 : (o_X5_path V d pl).1 = (o_X5_checkDesk d) := by unfold o_X5_path; simp only [if_neg c_1, if_true, if_false]
    exact vx_widen (k := 2) (n := 12) (Nat.le_of_ble_eq_true rfl) (Nat.le_of_ble_eq_true rfl) (hout _ q9 ce H locs _ ls _ ho9 c_1 hq hv hcl hP hD hS)
  · have hP : va_P D vwCl (wB cy ad V) H := vP_perm hP (List.Perm.refl _)
    have hD : va_D A (wB cy ad V) := vD_perm hD (List.Perm.refl _)
    refine lv_iload_n hx hb dX5_path_4 rfl (lv_at hl 2 rfl) ?_
    refine clx_n (vx_runS (As := [.int pl]) (rest := []) ⟨hx, hb, hml, hown, hts⟩ (c_X5_checkPlace l hlt D cy pl H.size) (va_cwS 1 hts gX5_path_X5_checkPlace rfl rfl rfl (by decide +kernel) ⟨Nat.le_of_ble_eq_true rfl, Nat.le_of_ble_eq_true rfl⟩) ⟨blU, preU hP hD (List.Perm.refl _) hK hE hS hA⟩ rfl rfl hl.1 rfl (lv_room (Nat.le_of_ble_eq_true rfl)) dX5_path_5 ⟨Nat.le_of_ble_eq_true rfl, Nat.le_of_ble_eq_true rfl⟩) hP hD (List.Perm.refl _) hS hA (fun c_2 q9 ce H locs hq hv hcl hP hD hS => ?_) (fun c_2 H locs hP hD hS => ?_)
    · have hP : va_P D vwCl (wB cy ad V) H := vP_perm hP (List.Perm.refl _)
      have hD : va_D A (wB cy ad V) := vD_perm hD (List.Perm.refl _)
      have ho9 : (o_X5_path V d pl).1 = (o_X5_checkPlace pl) := by unfold o_X5_path; simp only [if_pos c_1, if_neg c_2, if_true, if_false]
      exact vx_widen (k := 2) (n := 12) (Nat.le_of_ble_eq_true rfl) (Nat.le_of_ble_eq_true rfl) (hout _ q9 ce H locs _ ls _ ho9 c_2 hq hv hcl hP hD hS)
    · have hP : va_P D vwCl (wB cy ad V) H := vP_perm hP (List.Perm.refl _)
      have hD : va_D A (wB cy ad V) := vD_perm hD (List.Perm.refl _)
      have hd := (ckDesk_of c_1)
      rcases hd with hd | hd
      · subst hd
        have hd0 : (0 : Int32) = 0 := by decide
        have hl : lv_has ls 3 [(0, .ref (ad 0 0 0)), (1, .int (0 : Int32)), (2, .int pl)] := hl
        refine lv_aload_n hx hb dX5_path_8 rfl (lv_at hl 0 rfl) ?_
        refine va_get (D := D) (ci := 4) (v := .ref (ad 1 0 0)) (C := RX5) (T := TX5) (N := 6) hx hb hts inX5_path_X5 hown hK hP 0 rfl rfl 1 (by decide) (hts _ (List.mem_of_getElem? (i := 1) rfl)) (fun _ h9 => h9) rfl dX5_path_9 ?_
        refine va_get (D := D) (ci := 2) (v := .ref (((ad 1) 0) 2)) (C := RX3) (T := TX3) (N := 11) hx hb hts inX5_path_X3 hown hK hP 7 rfl rfl 1 (by decide) (hts _ (List.mem_of_getElem? (i := 2) rfl)) (fun _ h9 => h9) rfl dX5_path_12 ?_
        refine lv_iload_n hx hb dX5_path_15 rfl (lv_at hl 1 rfl) ?_
        refine x_aldq (v := .ref (((ad 1) 1) 0)) hx hb hK hP 9 2 rfl rfl (vp_c (by decide)) rfl dX5_path_16 ?_
        refine lv_iload_n hx hb dX5_path_17 rfl (lv_at hl 2 rfl) ?_
        refine cl_i (va_runV (As := [.int pl]) (rest := []) ⟨hx, hb, hml, hown, hts⟩ (c_X0_pathFor l D cy ((ad 1) 1) V.2.1.2.1 pl H.size (ckPlace_of c_2)) (cwV 1 hts gX5_path_X0_pathFor rfl rfl rfl (by decide +kernel) ⟨Nat.le_of_ble_eq_true rfl, Nat.le_of_ble_eq_true rfl⟩) ⟨blU, va_recv hK hP (ci := 0) (q0 := 14) rfl rfl, preU hP hD (pmB [cE cy ad V.2.2.2.2.2.2, cT cy (ad 0 1) V.1, cO cy (ad 1) V.2.1.1, cD cy (ad 1 1) V.2.1.2.1, cD cy (ad 1 2) V.2.1.2.2, cS cy (ad 2) V.2.2.1, cS cy (ad 3) V.2.2.2.1, cS cy (ad 4) V.2.2.2.2.1, cH cy (ad 0 2) (fun i => ad (i + 5)) V.2.2.2.2.2.1] 3 _ (cD cy ((ad 1) 1) V.2.1.2.1) rfl).1 hK hE hS hA⟩ rfl rfl hl.1 rfl (lv_room (Nat.le_of_ble_eq_true rfl)) dX5_path_18 ⟨Nat.le_of_ble_eq_true rfl, Nat.le_of_ble_eq_true rfl⟩) hP hD (pmB [cE cy ad V.2.2.2.2.2.2, cT cy (ad 0 1) V.1, cO cy (ad 1) V.2.1.1, cD cy (ad 1 1) V.2.1.2.1, cD cy (ad 1 2) V.2.1.2.2, cS cy (ad 2) V.2.2.1, cS cy (ad 3) V.2.2.2.1, cS cy (ad 4) V.2.2.2.2.1, cH cy (ad 0 2) (fun i => ad (i + 5)) V.2.2.2.2.2.1] 3 _ (cD cy ((ad 1) 1) V.2.1.2.1) rfl).1 hS hA (fun H locs hP hD hS => ?_)
        have hP : va_P D vwCl (wB cy ad V) H := vP_perm hP (pmB [cE cy ad V.2.2.2.2.2.2, cT cy (ad 0 1) V.1, cO cy (ad 1) V.2.1.1, cD cy (ad 1 1) V.2.1.2.1, cD cy (ad 1 2) V.2.1.2.2, cS cy (ad 2) V.2.2.1, cS cy (ad 3) V.2.2.2.1, cS cy (ad 4) V.2.2.2.2.1, cH cy (ad 0 2) (fun i => ad (i + 5)) V.2.2.2.2.2.1] 3 _ (cD cy ((ad 1) 1) V.2.1.2.1) rfl).2
        have hD : va_D A (wB cy ad V) := vD_perm hD (pmB [cE cy ad V.2.2.2.2.2.2, cT cy (ad 0 1) V.1, cO cy (ad 1) V.2.1.1, cD cy (ad 1 1) V.2.1.2.1, cD cy (ad 1 2) V.2.1.2.2, cS cy (ad 2) V.2.2.1, cS cy (ad 3) V.2.2.2.1, cS cy (ad 4) V.2.2.2.2.1, cH cy (ad 0 2) (fun i => ad (i + 5)) V.2.2.2.2.2.1] 3 _ (cD cy ((ad 1) 1) V.2.1.2.1) rfl).2
        have hr9 : (o_X5_path V (0 : Int32) pl) = ((0 : Int32), (r_X0_pathFor V.2.1.2.1 pl)) := by unfold o_X5_path; simp only [if_pos c_1, if_pos c_2, if_pos hd0, if_true, if_false]
        exact hret _ H locs _ ls hr9 hP hD hS dX5_path_21
      · subst hd
        have hd1 : ¬ (1 : Int32) = 0 := by decide
        have hl : lv_has ls 3 [(0, .ref (ad 0 0 0)), (1, .int (1 : Int32)), (2, .int pl)] := hl
        refine lv_aload_n hx hb dX5_path_8 rfl (lv_at hl 0 rfl) ?_
        refine va_get (D := D) (ci := 4) (v := .ref (ad 1 0 0)) (C := RX5) (T := TX5) (N := 6) hx hb hts inX5_path_X5 hown hK hP 0 rfl rfl 1 (by decide) (hts _ (List.mem_of_getElem? (i := 1) rfl)) (fun _ h9 => h9) rfl dX5_path_9 ?_
        refine va_get (D := D) (ci := 2) (v := .ref (((ad 1) 0) 2)) (C := RX3) (T := TX3) (N := 11) hx hb hts inX5_path_X3 hown hK hP 7 rfl rfl 1 (by decide) (hts _ (List.mem_of_getElem? (i := 2) rfl)) (fun _ h9 => h9) rfl dX5_path_12 ?_
        refine lv_iload_n hx hb dX5_path_15 rfl (lv_at hl 1 rfl) ?_
        refine x_aldq (v := .ref (((ad 1) 2) 0)) hx hb hK hP 9 2 rfl rfl (vp_c (by decide)) rfl dX5_path_16 ?_
        refine lv_iload_n hx hb dX5_path_17 rfl (lv_at hl 2 rfl) ?_
        refine cl_i (va_runV (As := [.int pl]) (rest := []) ⟨hx, hb, hml, hown, hts⟩ (c_X0_pathFor l D cy ((ad 1) 2) V.2.1.2.2 pl H.size (ckPlace_of c_2)) (cwV 1 hts gX5_path_X0_pathFor rfl rfl rfl (by decide +kernel) ⟨Nat.le_of_ble_eq_true rfl, Nat.le_of_ble_eq_true rfl⟩) ⟨blU, va_recv hK hP (ci := 0) (q0 := 21) rfl rfl, preU hP hD (pmB [cE cy ad V.2.2.2.2.2.2, cT cy (ad 0 1) V.1, cO cy (ad 1) V.2.1.1, cD cy (ad 1 1) V.2.1.2.1, cD cy (ad 1 2) V.2.1.2.2, cS cy (ad 2) V.2.2.1, cS cy (ad 3) V.2.2.2.1, cS cy (ad 4) V.2.2.2.2.1, cH cy (ad 0 2) (fun i => ad (i + 5)) V.2.2.2.2.2.1] 4 _ (cD cy ((ad 1) 2) V.2.1.2.2) rfl).1 hK hE hS hA⟩ rfl rfl hl.1 rfl (lv_room (Nat.le_of_ble_eq_true rfl)) dX5_path_18 ⟨Nat.le_of_ble_eq_true rfl, Nat.le_of_ble_eq_true rfl⟩) hP hD (pmB [cE cy ad V.2.2.2.2.2.2, cT cy (ad 0 1) V.1, cO cy (ad 1) V.2.1.1, cD cy (ad 1 1) V.2.1.2.1, cD cy (ad 1 2) V.2.1.2.2, cS cy (ad 2) V.2.2.1, cS cy (ad 3) V.2.2.2.1, cS cy (ad 4) V.2.2.2.2.1, cH cy (ad 0 2) (fun i => ad (i + 5)) V.2.2.2.2.2.1] 4 _ (cD cy ((ad 1) 2) V.2.1.2.2) rfl).1 hS hA (fun H locs hP hD hS => ?_)
        have hP : va_P D vwCl (wB cy ad V) H := vP_perm hP (pmB [cE cy ad V.2.2.2.2.2.2, cT cy (ad 0 1) V.1, cO cy (ad 1) V.2.1.1, cD cy (ad 1 1) V.2.1.2.1, cD cy (ad 1 2) V.2.1.2.2, cS cy (ad 2) V.2.2.1, cS cy (ad 3) V.2.2.2.1, cS cy (ad 4) V.2.2.2.2.1, cH cy (ad 0 2) (fun i => ad (i + 5)) V.2.2.2.2.2.1] 4 _ (cD cy ((ad 1) 2) V.2.1.2.2) rfl).2
        have hD : va_D A (wB cy ad V) := vD_perm hD (pmB [cE cy ad V.2.2.2.2.2.2, cT cy (ad 0 1) V.1, cO cy (ad 1) V.2.1.1, cD cy (ad 1 1) V.2.1.2.1, cD cy (ad 1 2) V.2.1.2.2, cS cy (ad 2) V.2.2.1, cS cy (ad 3) V.2.2.2.1, cS cy (ad 4) V.2.2.2.2.1, cH cy (ad 0 2) (fun i => ad (i + 5)) V.2.2.2.2.2.1] 4 _ (cD cy ((ad 1) 2) V.2.1.2.2) rfl).2
        have hr9 : (o_X5_path V (1 : Int32) pl) = ((0 : Int32), (r_X0_pathFor V.2.1.2.2 pl)) := by unfold o_X5_path; simp only [if_pos c_1, if_pos c_2, if_neg hd1, if_true, if_false]
        exact hret _ H locs _ ls hr9 hP hD hS dX5_path_21

def o_X5_noteOf (V : BV) (d : Int32) (pl : Int32) : Int32 × Int32 := (if (o_X5_checkDesk d) = 0 then (if (o_X5_checkPlace pl) = 0 then ((0 : Int32), (r_X3_noteFor V.2.1 d pl)) else ((o_X5_checkPlace pl), (0 : Int32))) else ((o_X5_checkDesk d), (0 : Int32)))
abbrev rX5_noteOf : Room := { frames := 7, cells := 2, slots := 12, locals := 110 }
theorem inX5_noteOf_X5 : ∀ w ∈ u_ws RX5 TX5 6, w ∈ wsX5_noteOf := by decide +kernel
set_option maxHeartbeats 4000000 in
set_option maxRecDepth 100000 in
theorem c_X5_noteOf (l : Launch) (hlt : l.stackTraces = false) (D : va_G) (cy : Nat → ClassId) (ad : AD) (V : BV) (d : Int32) (pl : Int32) (sz : Nat)  : CX l yX5_noteOf wsX5_noteOf rX5_noteOf D cy [.ref (ad 0 0 0), .int d, .int pl] (wB cy ad V) sz (o_X5_noteOf V d pl) (wB cy ad V) 2 12 := by
  refine stx_i (ty := .int) (cc := cX5_noteOf) (maxL := 3) (by decide) rfl rfl (Nat.le_of_ble_eq_true rfl) ?_
  intro pp e s m below meth c A Q ls hx hb hts hown hml hlocks htab hsz hP hK hD hE hA hl hAe hQ hret hout
  subst hsz
  have hown : s.vm.findClass RX5 = some m.cls := hown
  have hl : lv_has ls 3 [(0, .ref (ad 0 0 0)), (1, .int d), (2, .int pl)] := hl
  obtain ⟨H, hH⟩ : ∃ H, H = s.heap := ⟨_, rfl⟩
  rw [← hH] at hP ⊢
  have hS : va_S A s.heap H [] := by rw [hH]; exact va_S.rf
  obtain ⟨locs, hlo⟩ : ∃ locs : List Loc, locs = [] := ⟨_, rfl⟩
  rw [← hlo] at hS ⊢
  refine lv_iload_n hx hb dX5_noteOf_0 rfl (lv_at hl 1 rfl) ?_
  refine clx_n (vx_runS (As := [.int d]) (rest := []) ⟨hx, hb, hml, hown, hts⟩ (c_X5_checkDesk l hlt D cy d H.size) (va_cwS 1 hts gX5_noteOf_X5_checkDesk rfl rfl rfl (by decide +kernel) ⟨Nat.le_of_ble_eq_true rfl, Nat.le_of_ble_eq_true rfl⟩) ⟨blU, preU hP hD (List.Perm.refl _) hK hE hS hA⟩ rfl rfl hl.1 rfl (lv_room (Nat.le_of_ble_eq_true rfl)) dX5_noteOf_1 ⟨Nat.le_of_ble_eq_true rfl, Nat.le_of_ble_eq_true rfl⟩) hP hD (List.Perm.refl _) hS hA (fun c_1 q9 ce H locs hq hv hcl hP hD hS => ?_) (fun c_1 H locs hP hD hS => ?_)
  · have hP : va_P D vwCl (wB cy ad V) H := vP_perm hP (List.Perm.refl _)
    have hD : va_D A (wB cy ad V) := vD_perm hD (List.Perm.refl _)
    have ho9 : (o_X5_noteOf V d pl).1 = (o_X5_checkDesk d) := by unfold o_X5_noteOf; simp only [if_neg c_1, if_true, if_false]
    exact vx_widen (k := 2) (n := 12) (Nat.le_of_ble_eq_true rfl) (Nat.le_of_ble_eq_true rfl) (hout _ q9 ce H locs _ ls _ ho9 c_1 hq hv hcl hP hD hS)
  · have hP : va_P D vwCl (wB cy ad V) H := vP_perm hP (List.Perm.refl _)
    have hD : va_D A (wB cy ad V) := vD_perm hD (List.Perm.refl _)
    refine lv_iload_n hx hb dX5_noteOf_4 rfl (lv_at hl 2 rfl) ?_
    refine clx_n (vx_runS (As := [.int pl]) (rest := []) ⟨hx, hb, hml, hown, hts⟩ (c_X5_checkPlace l hlt D cy pl H.size) (va_cwS 1 hts gX5_noteOf_X5_checkPlace rfl rfl rfl (by decide +kernel) ⟨Nat.le_of_ble_eq_true rfl, Nat.le_of_ble_eq_true rfl⟩) ⟨blU, preU hP hD (List.Perm.refl _) hK hE hS hA⟩ rfl rfl hl.1 rfl (lv_room (Nat.le_of_ble_eq_true rfl)) dX5_noteOf_5 ⟨Nat.le_of_ble_eq_true rfl, Nat.le_of_ble_eq_true rfl⟩) hP hD (List.Perm.refl _) hS hA (fun c_2 q9 ce H locs hq hv hcl hP hD hS => ?_) (fun c_2 H locs hP hD hS => ?_)
    · have hP : va_P D vwCl (wB cy ad V) H := vP_perm hP (List.Perm.refl _)
      have hD : va_D A (wB cy ad V) := vD_perm hD (List.Perm.refl _)
      have ho9 : (o_X5_noteOf V d pl).1 = (o_X5_checkPlace pl) := by unfold o_X5_noteOf; simp only [if_pos c_1, if_neg c_2, if_true, if_false]
      exact vx_widen (k := 2) (n := 12) (Nat.le_of_ble_eq_true rfl) (Nat.le_of_ble_eq_true rfl) (hout _ q9 ce H locs _ ls _ ho9 c_2 hq hv hcl hP hD hS)
    · have hP : va_P D vwCl (wB cy ad V) H := vP_perm hP (List.Perm.refl _)
      have hD : va_D A (wB cy ad V) := vD_perm hD (List.Perm.refl _)
      refine lv_aload_n hx hb dX5_noteOf_8 rfl (lv_at hl 0 rfl) ?_
      refine va_get (D := D) (ci := 4) (v := .ref (ad 1 0 0)) (C := RX5) (T := TX5) (N := 6) hx hb hts inX5_noteOf_X5 hown hK hP 0 rfl rfl 1 (by decide) (hts _ (List.mem_of_getElem? (i := 1) rfl)) (fun _ h9 => h9) rfl dX5_noteOf_9 ?_
      refine lv_iload_n hx hb dX5_noteOf_12 rfl (lv_at hl 1 rfl) ?_
      refine lv_iload_n hx hb dX5_noteOf_13 rfl (lv_at hl 2 rfl) ?_
      refine cl_i (va_runV (As := [.int d, .int pl]) (rest := []) ⟨hx, hb, hml, hown, hts⟩ (c_X3_noteFor l D cy (ad 1) V.2.1 d pl H.size (ckDesk_of c_1) (ckPlace_of c_2)) (cwV 2 hts gX5_noteOf_X3_noteFor rfl rfl rfl (by decide +kernel) ⟨Nat.le_of_ble_eq_true rfl, Nat.le_of_ble_eq_true rfl⟩) ⟨blU, va_recv hK hP (ci := 2) (q0 := 7) rfl rfl, preU hP hD (pmB (bB cy ad V) 2 _ (cS cy (ad 1) V.2.1) rfl).1 hK hE hS hA⟩ rfl rfl hl.1 rfl (lv_room (Nat.le_of_ble_eq_true rfl)) dX5_noteOf_14 ⟨Nat.le_of_ble_eq_true rfl, Nat.le_of_ble_eq_true rfl⟩) hP hD (pmB (bB cy ad V) 2 _ (cS cy (ad 1) V.2.1) rfl).1 hS hA (fun H locs hP hD hS => ?_)
      have hP : va_P D vwCl (wB cy ad V) H := vP_perm hP (pmB (bB cy ad V) 2 _ (cS cy (ad 1) V.2.1) rfl).2
      have hD : va_D A (wB cy ad V) := vD_perm hD (pmB (bB cy ad V) 2 _ (cS cy (ad 1) V.2.1) rfl).2
      have hr9 : (o_X5_noteOf V d pl) = ((0 : Int32), (r_X3_noteFor V.2.1 d pl)) := by unfold o_X5_noteOf; simp only [if_pos c_1, if_pos c_2, if_true, if_false]
      exact hret _ H locs _ ls hr9 hP hD hS dX5_noteOf_17

