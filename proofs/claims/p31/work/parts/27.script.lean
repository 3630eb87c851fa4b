/-! ===== goOften, succeeds ===== -/
/-- a place goes n times -/
def goT (v : SV) (pl tk : Int32) : Nat → SV
  | 0 => v
  | n + 1 => w_X3_go (goT v pl tk n) pl tk
theorem goT_set (v : SV) (pl tk : Int32) : ∀ n, (goT v pl tk n).1 0 = v.1 0
  | 0 => rfl
  | n + 1 => (go_set _ _ _).trans (goT_set v pl tk n)
theorem zn_ite {c : Prop} [Decidable c] {a b : Int32} (ha : narrow .boolean (.int a) = .int a) (hb : narrow .boolean (.int b) = .int b) : narrow .boolean (.int (if c then a else b)) = .int (if c then a else b) := by
  split
  · exact ha
  · exact hb
def wayOf (way : Int32) : Int32 := if way = (1 : Int32) then (1 : Int32) else (0 : Int32)
def r_X2_goOften (v : SV) (pl way times : Int32) : Int32 := if (r_X5_isPlace pl) = 0 then (0 : Int32) else if (1 : Int32) < way then (0 : Int32) else if (1 : Int32) ≤ times then (1 : Int32) else (0 : Int32)
def w_X2_goOften (v : SV) (pl way times : Int32) : SV := if (r_X5_isPlace pl) = 0 then v else if (1 : Int32) < way then v else if (1 : Int32) ≤ times then goT v pl (if way = (1 : Int32) then (1 : Int32) else (0 : Int32)) times.toNatClampNeg else v
theorem zn_X2_goOften (v : SV) (pl way times : Int32) : narrow .boolean (.int (r_X2_goOften v pl way times)) = .int (r_X2_goOften v pl way times) := by
  unfold r_X2_goOften
  repeat' split
  all_goals rfl

abbrev rX2_goOften : Room := { frames := 4, cells := 0, slots := 0, locals := 94 }
set_option maxHeartbeats 4000000 in
set_option maxRecDepth 100000 in
theorem c_X2_goOften (l : Launch) (D : va_G) (cy : Nat → ClassId) (a : Nat → Nat → Nat) (v : SV) (pl : Int32) (way : Int32) (times : Int32) (sz : Nat) (hsz2 : szok (v.1 0 0)) : CI l yX2_goOften wsX2_goOften rX2_goOften D cy [.ref (a 0 0), .int pl, .int way, .int times] (cS cy a v) sz (r_X2_goOften v pl way times) (cS cy a (w_X2_goOften v pl way times)) 0 0 := by
  refine st_i (ty := .boolean) (cc := cX2_goOften) (maxL := 5) (by decide) rfl (zn_X2_goOften v pl way times) (Nat.le_of_ble_eq_true rfl) ?_
  intro pp e s m below meth c A Q ls hx hb hts hown hml hlocks hsz hP hK hD hE hA hl hret
  subst hsz
  have hown : s.vm.findClass RX2 = some m.cls := hown
  have hl : lv_has ls 5 [(0, .ref (a 0 0)), (1, .int pl), (2, .int way), (3, .int times)] := hl
  obtain ⟨H, hH⟩ : ∃ H, H = s.heap := ⟨_, rfl⟩
  rw [← hH] at hP ⊢
  have hS : va_S A s.heap H [] := by rw [hH]; exact va_S.rf
  obtain ⟨locs, hlo⟩ : ∃ locs : List Loc, locs = [] := ⟨_, rfl⟩
  rw [← hlo] at hS ⊢
  refine lv_iload_n hx hb dX2_goOften_0 rfl (lv_at hl 1 rfl) ?_
  refine cl_i (va_runSN (As := [.int pl]) (rest := []) ⟨hx, hb, hml, hown, hts⟩ (c_X5_isPlace l D cy pl H.size) ⟨va_cnB 1 hts gX2_goOften_X5_isPlace_n58 rfl rfl rfl hE.2.2.2.2.2.2.2.2.2.1 (hts _ (List.mem_of_getElem? (i := 2) rfl)) (by decide +kernel) ⟨Nat.le_of_ble_eq_true rfl, Nat.le_of_ble_eq_true rfl⟩, (hts _ (List.mem_of_getElem? (i := 1) rfl)), trivial⟩ ⟨blU, preU hP hD (List.Perm.refl _) hK hE hS hA⟩ rfl rfl hl.1 rfl (lv_room (Nat.le_of_ble_eq_true rfl)) dX2_goOften_1 ⟨Nat.le_of_ble_eq_true rfl, Nat.le_of_ble_eq_true rfl⟩) hP hD (List.Perm.refl _) hS hA (fun H locs hP hD hS => ?_)
  have hP : va_P D vwCl (cS cy a v) H := hP
  have hD : va_D A (cS cy a v) := hD
  refine lv_if_eq (tgt := 17) hx hb dX2_goOften_4 (by decide) (fun c_1 => ?_) (fun c_1 => ?_)
  · refine lv_iconst (v := 0) hx hb dX2_goOften_17 (by decide) ?_
    have hr9 : (0 : Int32) = (r_X2_goOften v pl way times) := by unfold r_X2_goOften; simp only [if_pos c_1, if_true, if_false]
    have hw9 : (w_X2_goOften v pl way times) = v := by unfold w_X2_goOften; simp only [if_pos c_1, if_true, if_false]
    exact hret _ H locs _ ls hr9 (by rw [hw9]; exact hP) (by rw [hw9]; exact hD) hS dX2_goOften_18
  · refine lv_iload_n hx hb dX2_goOften_7 rfl (lv_at hl 2 rfl) ?_
    refine lv_iconst (v := 1) hx hb dX2_goOften_8 (by decide) ?_
    refine lv_icmp_gt (tgt := 17) hx hb dX2_goOften_9 (by decide) (fun c_2 => ?_) (fun c_2 => ?_)
    · refine lv_iconst (v := 0) hx hb dX2_goOften_17 (by decide) ?_
      have hr9 : (0 : Int32) = (r_X2_goOften v pl way times) := by unfold r_X2_goOften; simp only [if_neg c_1, if_pos c_2, if_true, if_false]
      have hw9 : (w_X2_goOften v pl way times) = v := by unfold w_X2_goOften; simp only [if_neg c_1, if_pos c_2, if_true, if_false]
      exact hret _ H locs _ ls hr9 (by rw [hw9]; exact hP) (by rw [hw9]; exact hD) hS dX2_goOften_18
    · refine lv_iload_n hx hb dX2_goOften_12 rfl (lv_at hl 3 rfl) ?_
      refine lv_iconst (v := 1) hx hb dX2_goOften_13 (by decide) ?_
      refine lv_icmp_ge (tgt := 19) hx hb dX2_goOften_14 (by decide) (fun c_3 => ?_) (fun c_3 => ?_)
      · refine lv_iconst (v := 0) hx hb dX2_goOften_19 (by decide) ?_
        refine lv_istore (lv' := [(4, .int (0 : Int32)), (0, .ref (a 0 0)), (1, .int pl), (2, .int way), (3, .int times)]) hx hb dX2_goOften_20 hl (by decide) rfl (fun ls hl => ?_)
        have hpl : vp_in pl 26 := isPlace_of c_1
        have hN : times.toNatClampNeg < 2 ^ 31 := tnc_lt times
        have hloop : ∀ (k i : Nat), i + k = times.toNatClampNeg → ∀ (H : Heap) (locs : List Loc), va_P D vwCl (cS cy a (goT v pl (if way = (1 : Int32) then (1 : Int32) else (0 : Int32)) i)) H → va_D A (cS cy a (goT v pl (if way = (1 : Int32) then (1 : Int32) else (0 : Int32)) i)) → va_S A s.heap H locs → ∀ ls : Array Slot, lv_has ls 5 [(0, .ref (a 0 0)), (1, .int pl), (2, .int way), (3, .int times), (4, .int (nI i))] → W pp l e rX2_goOften s m ([.ref (a 0 0), .int pl, .int way, .int times] : List Value).toArray below meth c H locs 0 0 Q (F0 m 22 ls []) := by
          intro k
          induction k with
          | zero =>
            intro i hi H locs hP hD hS ls hl
            have hi : i = times.toNatClampNeg := by omega
            refine lv_iload hx hb dX2_goOften_22 (lv_at hl 4 rfl) ?_
            refine lv_iload_n hx hb dX2_goOften_24 rfl (lv_at hl 3 rfl) ?_
            refine lv_icmp_ge (tgt := 50) hx hb dX2_goOften_25 (by decide) (fun c_4 => ?_) (fun c_4 => absurd (ge_ofc (by omega) (by omega)) c_4)
            refine lv_iconst (v := 1) hx hb dX2_goOften_50 (by decide) ?_
            have hr9 : (1 : Int32) = r_X2_goOften v pl way times := by unfold r_X2_goOften; simp only [if_neg c_1, if_neg c_2, if_pos c_3, if_true, if_false]
            have hw9 : goT v pl (if way = (1 : Int32) then (1 : Int32) else (0 : Int32)) i = w_X2_goOften v pl way times := by unfold w_X2_goOften; simp only [if_neg c_1, if_neg c_2, if_pos c_3, if_true, if_false]; rw [hi]
            exact hret _ H locs _ ls hr9 (by rw [← hw9]; exact hP) (by rw [← hw9]; exact hD) hS dX2_goOften_51
          | succ k ih =>
            intro i hi H locs hP hD hS ls hl
            refine lv_iload hx hb dX2_goOften_22 (lv_at hl 4 rfl) ?_
            refine lv_iload_n hx hb dX2_goOften_24 rfl (lv_at hl 3 rfl) ?_
            refine lv_icmp_ge (tgt := 50) hx hb dX2_goOften_25 (by decide) (fun c_5 => absurd c_5 (lt_ofc (by omega) (by omega))) (fun c_5 => ?_)
            refine lv_aload_n hx hb dX2_goOften_28 rfl (lv_at hl 0 rfl) ?_
            refine lv_iload_n hx hb dX2_goOften_29 rfl (lv_at hl 1 rfl) ?_
            refine lv_iload_n hx hb dX2_goOften_30 rfl (lv_at hl 2 rfl) ?_
            refine lv_iconst (v := 1) hx hb dX2_goOften_31 (by decide) ?_
            have J40_7 : ∀ (z_7 : Int32) (hz_7 : z_7 = (if way = (1 : Int32) then (1 : Int32) else (0 : Int32))) (H : Heap) (locs : List Loc), va_P D vwCl (cS cy a (goT v pl (if way = (1 : Int32) then (1 : Int32) else (0 : Int32)) i)) H → va_D A (cS cy a (goT v pl (if way = (1 : Int32) then (1 : Int32) else (0 : Int32)) i)) → va_S A s.heap H locs → ∀ ls : Array Slot, lv_has ls 5 [(0, .ref (a 0 0)), (1, .int pl), (2, .int way), (3, .int times), (4, .int (nI i))] → W pp l e rX2_goOften s m ([.ref (a 0 0), .int pl, .int way, .int times] : List Value).toArray below meth c H locs 0 0 Q (F0 m 40 ls [.int z_7, .int pl, .ref (a 0 0)]) := by
              intro z_7 hz_7 H locs hP hD hS ls hl
              subst hz_7
              refine cl_i (va_runV (As := [.int pl, .int (if way = (1 : Int32) then (1 : Int32) else (0 : Int32))]) (rest := []) ⟨hx, hb, hml, hown, hts⟩ (c_X3_go l D cy a (goT v pl (if way = (1 : Int32) then (1 : Int32) else (0 : Int32)) i) pl (if way = (1 : Int32) then (1 : Int32) else (0 : Int32)) H.size hpl (show szok ((goT v pl (if way = (1 : Int32) then (1 : Int32) else (0 : Int32)) i).1 0 0) from by rw [goT_set]; exact hsz2)) (cwV 2 hts gX2_goOften_X3_go rfl rfl rfl (by decide +kernel) ⟨Nat.le_of_ble_eq_true rfl, Nat.le_of_ble_eq_true rfl⟩) ⟨blU, va_recv hK hP (ci := 2) (q0 := 0) rfl rfl, preU hP hD (pmI _) hK hE hS hA⟩ rfl rfl hl.1 rfl (lv_room (Nat.le_of_ble_eq_true rfl)) dX2_goOften_40 ⟨Nat.le_of_ble_eq_true rfl, Nat.le_of_ble_eq_true rfl⟩) hP hD (pmI _) hS hA (fun H locs hP hD hS => ?_)
              have hP : va_P D vwCl (cS cy a (w_X3_go (goT v pl (if way = (1 : Int32) then (1 : Int32) else (0 : Int32)) i) pl (if way = (1 : Int32) then (1 : Int32) else (0 : Int32)))) H := vP_perm hP (pmI _).symm
              have hD : va_D A (cS cy a (w_X3_go (goT v pl (if way = (1 : Int32) then (1 : Int32) else (0 : Int32)) i) pl (if way = (1 : Int32) then (1 : Int32) else (0 : Int32)))) := vD_perm hD (pmI _).symm
              refine lv_pop hx hb dX2_goOften_43 rfl ?_
              refine lv_iinc (v := (nI (i + 1))) (lv' := [(4, .int (nI (i + 1))), (0, .ref (a 0 0)), (1, .int pl), (2, .int way), (3, .int times)]) hx hb dX2_goOften_44 hl (k := 4) rfl (nI_1 i) (by decide) rfl (fun ls hl => ?_)
              refine lv_goto (tgt := 22) hx hb dX2_goOften_47 (by decide) ?_
              exact ih (i + 1) (by omega) H locs hP hD hS ls (lv_sub hl [1, 2, 3, 4, 0] rfl)
            refine lv_icmp_ne (tgt := 39) hx hb dX2_goOften_32 (by decide) (fun c_6 => ?_) (fun c_6 => ?_)
            · refine lv_iconst (v := 0) hx hb dX2_goOften_39 (by decide) ?_
              exact J40_7 (0 : Int32) (by simp only [if_neg c_6, if_true, if_false]) H locs hP hD hS ls (lv_sub hl [0, 1, 2, 3, 4] rfl)
            · refine lv_iconst (v := 1) hx hb dX2_goOften_35 (by decide) ?_
              refine lv_goto (tgt := 40) hx hb dX2_goOften_36 (by decide) ?_
              exact J40_7 (1 : Int32) (by simp only [if_pos c_6, if_true, if_false]) H locs hP hD hS ls (lv_sub hl [0, 1, 2, 3, 4] rfl)
        exact hloop times.toNatClampNeg 0 (by omega) H locs hP hD hS ls (lv_sub hl [1, 2, 3, 4, 0] rfl)
      · refine lv_iconst (v := 0) hx hb dX2_goOften_17 (by decide) ?_
        have hr9 : (0 : Int32) = (r_X2_goOften v pl way times) := by unfold r_X2_goOften; simp only [if_neg c_1, if_neg c_2, if_neg c_3, if_true, if_false]
        have hw9 : (w_X2_goOften v pl way times) = v := by unfold w_X2_goOften; simp only [if_neg c_1, if_neg c_2, if_neg c_3, if_true, if_false]
        exact hret _ H locs _ ls hr9 (by rw [hw9]; exact hP) (by rw [hw9]; exact hD) hS dX2_goOften_18

def r_X2_succeeds (v : SV) (grp : Int32) : Int32 := (if (grp / (10000 : Int32)) = 1 then (r_X2_goOften v (((10 : Int32) * ((grp / (1000 : Int32)) - (grp / (1000 : Int32)) / (10 : Int32) * (10 : Int32))) + ((grp / (100 : Int32)) - (grp / (100 : Int32)) / (10 : Int32) * (10 : Int32))) ((grp / (10 : Int32)) - (grp / (10 : Int32)) / (10 : Int32) * (10 : Int32)) (grp - grp / (10 : Int32) * (10 : Int32))) else (if (grp / (10000 : Int32)) = 2 then (if (grp - grp / (10 : Int32) * (10 : Int32)) = 0 then (if (r_X2_changeDesk v ((grp / (1000 : Int32)) - (grp / (1000 : Int32)) / (10 : Int32) * (10 : Int32)) ((grp / (100 : Int32)) - (grp / (100 : Int32)) / (10 : Int32) * (10 : Int32)) ((grp / (10 : Int32)) - (grp / (10 : Int32)) / (10 : Int32) * (10 : Int32))) = 0 then (0 : Int32) else (1 : Int32)) else (0 : Int32)) else (if (grp / (10000 : Int32)) = 3 then (if ((grp / (10 : Int32)) - (grp / (10 : Int32)) / (10 : Int32) * (10 : Int32)) = 0 then (if (grp - grp / (10 : Int32) * (10 : Int32)) = 0 then (if (r_X2_changeBoth v ((grp / (1000 : Int32)) - (grp / (1000 : Int32)) / (10 : Int32) * (10 : Int32)) ((grp / (100 : Int32)) - (grp / (100 : Int32)) / (10 : Int32) * (10 : Int32))) = 0 then (0 : Int32) else (1 : Int32)) else (0 : Int32)) else (0 : Int32)) else (if (grp / (10000 : Int32)) = 4 then (if (grp - grp / (10000 : Int32) * (10000 : Int32)) = 0 then (if (r_X2_forgetAll v) = 0 then (0 : Int32) else (1 : Int32)) else (0 : Int32)) else (if (grp / (10000 : Int32)) = 5 then (r_X2_makeStrength v ((grp / (1000 : Int32)) - (grp / (1000 : Int32)) / (10 : Int32) * (10 : Int32)) (((10 : Int32) * ((grp / (100 : Int32)) - (grp / (100 : Int32)) / (10 : Int32) * (10 : Int32))) + ((grp / (10 : Int32)) - (grp / (10 : Int32)) / (10 : Int32) * (10 : Int32))) (grp - grp / (10 : Int32) * (10 : Int32))) else (if (grp / (10000 : Int32)) = 6 then (if (grp - grp / (10 : Int32) * (10 : Int32)) = 0 then (if (r_X2_isGuess v (((10 : Int32) * ((grp / (1000 : Int32)) - (grp / (1000 : Int32)) / (10 : Int32) * (10 : Int32))) + ((grp / (100 : Int32)) - (grp / (100 : Int32)) / (10 : Int32) * (10 : Int32))) ((grp / (10 : Int32)) - (grp / (10 : Int32)) / (10 : Int32) * (10 : Int32))) = 0 then (0 : Int32) else (1 : Int32)) else (0 : Int32)) else (if (grp / (10000 : Int32)) = 7 then (if ((grp / (1000 : Int32)) - (grp / (1000 : Int32)) / (10 : Int32) * (10 : Int32)) = 0 then (if (v.1 6 0) < (grp - grp / (1000 : Int32) * (1000 : Int32)) then (0 : Int32) else (1 : Int32)) else (0 : Int32)) else (if (grp / (10000 : Int32)) = 8 then (if (r_X5_isDesk ((grp / (1000 : Int32)) - (grp / (1000 : Int32)) / (10 : Int32) * (10 : Int32))) = 0 then (0 : Int32) else (if (r_X3_isNote v (((10 : Int32) * ((grp / (100 : Int32)) - (grp / (100 : Int32)) / (10 : Int32) * (10 : Int32))) + ((grp / (10 : Int32)) - (grp / (10 : Int32)) / (10 : Int32) * (10 : Int32)))) = 0 then (0 : Int32) else (if ((grp / (1000 : Int32)) - (grp / (1000 : Int32)) / (10 : Int32) * (10 : Int32)) = 0 then (if ((v.2.1 1) (((10 : Int32) * ((grp / (100 : Int32)) - (grp / (100 : Int32)) / (10 : Int32) * (10 : Int32))) + ((grp / (10 : Int32)) - (grp / (10 : Int32)) / (10 : Int32) * (10 : Int32))).toNatClampNeg) < (grp - grp / (10 : Int32) * (10 : Int32)) then (0 : Int32) else (1 : Int32)) else (if ((v.2.2 1) (((10 : Int32) * ((grp / (100 : Int32)) - (grp / (100 : Int32)) / (10 : Int32) * (10 : Int32))) + ((grp / (10 : Int32)) - (grp / (10 : Int32)) / (10 : Int32) * (10 : Int32))).toNatClampNeg) < (grp - grp / (10 : Int32) * (10 : Int32)) then (0 : Int32) else (1 : Int32))))) else (if (grp / (10000 : Int32)) = 9 then (if (((10 : Int32) * ((grp / (1000 : Int32)) - (grp / (1000 : Int32)) / (10 : Int32) * (10 : Int32))) + ((grp / (100 : Int32)) - (grp / (100 : Int32)) / (10 : Int32) * (10 : Int32))) = 0 then (if (v.1 7 0) < (grp - grp / (100 : Int32) * (100 : Int32)) then (0 : Int32) else (1 : Int32)) else (0 : Int32)) else (0 : Int32))))))))))
def w_X2_succeeds (v : SV) (grp : Int32) : SV := (if (grp / (10000 : Int32)) = 1 then (w_X2_goOften v (((10 : Int32) * ((grp / (1000 : Int32)) - (grp / (1000 : Int32)) / (10 : Int32) * (10 : Int32))) + ((grp / (100 : Int32)) - (grp / (100 : Int32)) / (10 : Int32) * (10 : Int32))) ((grp / (10 : Int32)) - (grp / (10 : Int32)) / (10 : Int32) * (10 : Int32)) (grp - grp / (10 : Int32) * (10 : Int32))) else (if (grp / (10000 : Int32)) = 2 then (if (grp - grp / (10 : Int32) * (10 : Int32)) = 0 then (w_X2_changeDesk v ((grp / (1000 : Int32)) - (grp / (1000 : Int32)) / (10 : Int32) * (10 : Int32)) ((grp / (100 : Int32)) - (grp / (100 : Int32)) / (10 : Int32) * (10 : Int32)) ((grp / (10 : Int32)) - (grp / (10 : Int32)) / (10 : Int32) * (10 : Int32))) else v) else (if (grp / (10000 : Int32)) = 3 then (if ((grp / (10 : Int32)) - (grp / (10 : Int32)) / (10 : Int32) * (10 : Int32)) = 0 then (if (grp - grp / (10 : Int32) * (10 : Int32)) = 0 then (w_X2_changeBoth v ((grp / (1000 : Int32)) - (grp / (1000 : Int32)) / (10 : Int32) * (10 : Int32)) ((grp / (100 : Int32)) - (grp / (100 : Int32)) / (10 : Int32) * (10 : Int32))) else v) else v) else (if (grp / (10000 : Int32)) = 4 then (if (grp - grp / (10000 : Int32) * (10000 : Int32)) = 0 then (w_X2_forgetAll v) else v) else (if (grp / (10000 : Int32)) = 5 then (w_X2_makeStrength v ((grp / (1000 : Int32)) - (grp / (1000 : Int32)) / (10 : Int32) * (10 : Int32)) (((10 : Int32) * ((grp / (100 : Int32)) - (grp / (100 : Int32)) / (10 : Int32) * (10 : Int32))) + ((grp / (10 : Int32)) - (grp / (10 : Int32)) / (10 : Int32) * (10 : Int32))) (grp - grp / (10 : Int32) * (10 : Int32))) else (if (grp / (10000 : Int32)) = 6 then v else (if (grp / (10000 : Int32)) = 7 then v else (if (grp / (10000 : Int32)) = 8 then (if (r_X5_isDesk ((grp / (1000 : Int32)) - (grp / (1000 : Int32)) / (10 : Int32) * (10 : Int32))) = 0 then v else (if (r_X3_isNote v (((10 : Int32) * ((grp / (100 : Int32)) - (grp / (100 : Int32)) / (10 : Int32) * (10 : Int32))) + ((grp / (10 : Int32)) - (grp / (10 : Int32)) / (10 : Int32) * (10 : Int32)))) = 0 then v else (if ((grp / (1000 : Int32)) - (grp / (1000 : Int32)) / (10 : Int32) * (10 : Int32)) = 0 then v else v))) else (if (grp / (10000 : Int32)) = 9 then v else v)))))))))
abbrev rX2_succeeds : Room := { frames := 5, cells := 0, slots := 0, locals := 118 }
theorem inX2_succeeds_X0 : ∀ w ∈ u_ws RX0 TX0 8, w ∈ wsX2_succeeds := by decide +kernel
theorem inX2_succeeds_X3 : ∀ w ∈ u_ws RX3 TX3 11, w ∈ wsX2_succeeds := by decide +kernel
set_option maxHeartbeats 4000000 in
set_option maxRecDepth 100000 in
theorem c_X2_succeeds (l : Launch) (D : va_G) (cy : Nat → ClassId) (a : Nat → Nat → Nat) (v : SV) (grp : Int32) (sz : Nat) (hsz2 : szok (v.1 0 0)) : CI l yX2_succeeds wsX2_succeeds rX2_succeeds D cy [.ref (a 0 0), .int grp] (cS cy a v) sz (r_X2_succeeds v grp) (cS cy a (w_X2_succeeds v grp)) 0 0 := by
  refine st_i (ty := .boolean) (cc := cX2_succeeds) (maxL := 8) (by decide) rfl (by unfold r_X2_succeeds; exact (zn_ite (zn_X2_goOften _ _ _ _) (zn_ite (zn_ite (zn_ite rfl rfl) rfl) (zn_ite (zn_ite (zn_ite (zn_ite rfl rfl) rfl) rfl) (zn_ite (zn_ite (zn_ite rfl rfl) rfl) (zn_ite (zn_X2_makeStrength _ _ _ _) (zn_ite (zn_ite (zn_ite rfl rfl) rfl) (zn_ite (zn_ite (zn_ite rfl rfl) rfl) (zn_ite (zn_ite rfl (zn_ite rfl (zn_ite (zn_ite rfl rfl) (zn_ite rfl rfl)))) (zn_ite (zn_ite (zn_ite rfl rfl) rfl) rfl)))))))))) (Nat.le_of_ble_eq_true rfl) ?_
  intro pp e s m below meth c A Q ls hx hb hts hown hml hlocks hsz hP hK hD hE hA hl hret
  subst hsz
  have hown : s.vm.findClass RX2 = some m.cls := hown
  have hl : lv_has ls 8 [(0, .ref (a 0 0)), (1, .int grp)] := hl
  obtain ⟨H, hH⟩ : ∃ H, H = s.heap := ⟨_, rfl⟩
  rw [← hH] at hP ⊢
  have hS : va_S A s.heap H [] := by rw [hH]; exact va_S.rf
  obtain ⟨locs, hlo⟩ : ∃ locs : List Loc, locs = [] := ⟨_, rfl⟩
  rw [← hlo] at hS ⊢
  refine lv_iload_n hx hb dX2_succeeds_0 rfl (lv_at hl 1 rfl) ?_
  refine lv_sipush (v := 1000) hx hb dX2_succeeds_1 (by decide) ?_
  refine lv_idiv hx hb dX2_succeeds_4 (by decide) ?_
  refine lv_bipush (v := 10) hx hb dX2_succeeds_5 (by decide) ?_
  refine lv_irem hx hb dX2_succeeds_7 (by decide) ?_
  refine lv_istore_n (lv' := [(2, .int ((grp / (1000 : Int32)) - (grp / (1000 : Int32)) / (10 : Int32) * (10 : Int32))), (0, .ref (a 0 0)), (1, .int grp)]) hx hb dX2_succeeds_8 rfl hl (by decide) rfl (fun ls hl => ?_)
  refine lv_iload_n hx hb dX2_succeeds_9 rfl (lv_at hl 2 rfl) ?_
  refine lv_bipush (v := 100) hx hb dX2_succeeds_10 (by decide) ?_
  refine lv_idiv hx hb dX2_succeeds_12 (by decide) ?_
  refine lv_bipush (v := 10) hx hb dX2_succeeds_13 (by decide) ?_
  refine lv_irem hx hb dX2_succeeds_15 (by decide) ?_
  refine lv_istore_n (lv' := [(3, .int ((grp / (100 : Int32)) - (grp / (100 : Int32)) / (10 : Int32) * (10 : Int32))), (2, .int ((grp / (1000 : Int32)) - (grp / (1000 : Int32)) / (10 : Int32) * (10 : Int32))), (0, .ref (a 0 0)), (1, .int grp)]) hx hb dX2_succeeds_16 rfl hl (by decide) rfl (fun ls hl => ?_)
  refine lv_iload_n hx hb dX2_succeeds_17 rfl (lv_at hl 3 rfl) ?_
  refine lv_bipush (v := 10) hx hb dX2_succeeds_18 (by decide) ?_
  refine lv_idiv hx hb dX2_succeeds_20 (by decide) ?_
  refine lv_bipush (v := 10) hx hb dX2_succeeds_21 (by decide) ?_
  refine lv_irem hx hb dX2_succeeds_23 (by decide) ?_
  refine lv_istore (lv' := [(4, .int ((grp / (10 : Int32)) - (grp / (10 : Int32)) / (10 : Int32) * (10 : Int32))), (3, .int ((grp / (100 : Int32)) - (grp / (100 : Int32)) / (10 : Int32) * (10 : Int32))), (2, .int ((grp / (1000 : Int32)) - (grp / (1000 : Int32)) / (10 : Int32) * (10 : Int32))), (0, .ref (a 0 0)), (1, .int grp)]) hx hb dX2_succeeds_24 hl (by decide) rfl (fun ls hl => ?_)
  refine lv_iload_n hx hb dX2_succeeds_26 rfl (lv_at hl 4 rfl) ?_
  refine lv_bipush (v := 10) hx hb dX2_succeeds_27 (by decide) ?_
  refine lv_irem hx hb dX2_succeeds_29 (by decide) ?_
  refine lv_istore (lv' := [(5, .int (grp - grp / (10 : Int32) * (10 : Int32))), (4, .int ((grp / (10 : Int32)) - (grp / (10 : Int32)) / (10 : Int32) * (10 : Int32))), (3, .int ((grp / (100 : Int32)) - (grp / (100 : Int32)) / (10 : Int32) * (10 : Int32))), (2, .int ((grp / (1000 : Int32)) - (grp / (1000 : Int32)) / (10 : Int32) * (10 : Int32))), (0, .ref (a 0 0)), (1, .int grp)]) hx hb dX2_succeeds_30 hl (by decide) rfl (fun ls hl => ?_)
  refine lv_bipush (v := 10) hx hb dX2_succeeds_32 (by decide) ?_
  refine lv_iload_n hx hb dX2_succeeds_34 rfl (lv_at hl 3 rfl) ?_
  refine lv_imul hx hb dX2_succeeds_35 ?_
  refine lv_iload_n hx hb dX2_succeeds_36 rfl (lv_at hl 2 rfl) ?_
  refine lv_iadd hx hb dX2_succeeds_37 ?_
  refine lv_istore (lv' := [(6, .int (((10 : Int32) * ((grp / (1000 : Int32)) - (grp / (1000 : Int32)) / (10 : Int32) * (10 : Int32))) + ((grp / (100 : Int32)) - (grp / (100 : Int32)) / (10 : Int32) * (10 : Int32)))), (5, .int (grp - grp / (10 : Int32) * (10 : Int32))), (4, .int ((grp / (10 : Int32)) - (grp / (10 : Int32)) / (10 : Int32) * (10 : Int32))), (3, .int ((grp / (100 : Int32)) - (grp / (100 : Int32)) / (10 : Int32) * (10 : Int32))), (2, .int ((grp / (1000 : Int32)) - (grp / (1000 : Int32)) / (10 : Int32) * (10 : Int32))), (0, .ref (a 0 0)), (1, .int grp)]) hx hb dX2_succeeds_38 hl (by decide) rfl (fun ls hl => ?_)
  refine lv_bipush (v := 10) hx hb dX2_succeeds_40 (by decide) ?_
  refine lv_iload_n hx hb dX2_succeeds_42 rfl (lv_at hl 3 rfl) ?_
  refine lv_imul hx hb dX2_succeeds_43 ?_
  refine lv_iload hx hb dX2_succeeds_44 (lv_at hl 2 rfl) ?_
  refine lv_iadd hx hb dX2_succeeds_46 ?_
  refine lv_istore (lv' := [(7, .int (((10 : Int32) * ((grp / (100 : Int32)) - (grp / (100 : Int32)) / (10 : Int32) * (10 : Int32))) + ((grp / (10 : Int32)) - (grp / (10 : Int32)) / (10 : Int32) * (10 : Int32)))), (6, .int (((10 : Int32) * ((grp / (1000 : Int32)) - (grp / (1000 : Int32)) / (10 : Int32) * (10 : Int32))) + ((grp / (100 : Int32)) - (grp / (100 : Int32)) / (10 : Int32) * (10 : Int32)))), (5, .int (grp - grp / (10 : Int32) * (10 : Int32))), (4, .int ((grp / (10 : Int32)) - (grp / (10 : Int32)) / (10 : Int32) * (10 : Int32))), (3, .int ((grp / (100 : Int32)) - (grp / (100 : Int32)) / (10 : Int32) * (10 : Int32))), (2, .int ((grp / (1000 : Int32)) - (grp / (1000 : Int32)) / (10 : Int32) * (10 : Int32))), (0, .ref (a 0 0)), (1, .int grp)]) hx hb dX2_succeeds_47 hl (by decide) rfl (fun ls hl => ?_)
  refine lv_iload_n hx hb dX2_succeeds_49 rfl (lv_at hl 7 rfl) ?_
  refine lv_sipush (v := 10000) hx hb dX2_succeeds_50 (by decide) ?_
  refine lv_idiv hx hb dX2_succeeds_53 (by decide) ?_
  by_cases c_1 : (grp / (10000 : Int32)) = 1
  · refine lv_tableIn (tgt := 104) (off := 50) hx hb dX2_succeeds_54 (by rw [c_1]; decide) (by rw [c_1]; decide) (by rw [c_1]; rfl) (by decide) ?_
    refine lv_aload_n hx hb dX2_succeeds_104 rfl (lv_at hl 6 rfl) ?_
    refine lv_iload hx hb dX2_succeeds_105 (lv_at hl 1 rfl) ?_
    refine lv_iload hx hb dX2_succeeds_107 (lv_at hl 3 rfl) ?_
    refine lv_iload hx hb dX2_succeeds_109 (lv_at hl 2 rfl) ?_
    refine cl_i (va_runS (As := [.ref (a 0 0), .int (((10 : Int32) * ((grp / (1000 : Int32)) - (grp / (1000 : Int32)) / (10 : Int32) * (10 : Int32))) + ((grp / (100 : Int32)) - (grp / (100 : Int32)) / (10 : Int32) * (10 : Int32))), .int ((grp / (10 : Int32)) - (grp / (10 : Int32)) / (10 : Int32) * (10 : Int32)), .int (grp - grp / (10 : Int32) * (10 : Int32))]) (rest := []) ⟨hx, hb, hml, hown, hts⟩ (c_X2_goOften l D cy a v (((10 : Int32) * ((grp / (1000 : Int32)) - (grp / (1000 : Int32)) / (10 : Int32) * (10 : Int32))) + ((grp / (100 : Int32)) - (grp / (100 : Int32)) / (10 : Int32) * (10 : Int32))) ((grp / (10 : Int32)) - (grp / (10 : Int32)) / (10 : Int32) * (10 : Int32)) (grp - grp / (10 : Int32) * (10 : Int32)) H.size hsz2) (va_cwS 4 hts gX2_succeeds_X2_goOften rfl rfl rfl (by decide +kernel) ⟨Nat.le_of_ble_eq_true rfl, Nat.le_of_ble_eq_true rfl⟩) ⟨blU, preU hP hD (pmI _) hK hE hS hA⟩ rfl rfl hl.1 rfl (lv_room (Nat.le_of_ble_eq_true rfl)) dX2_succeeds_111 ⟨Nat.le_of_ble_eq_true rfl, Nat.le_of_ble_eq_true rfl⟩) hP hD (pmI _) hS hA (fun H locs hP hD hS => ?_)
    have hP : va_P D vwCl (cS cy a (w_X2_goOften v (((10 : Int32) * ((grp / (1000 : Int32)) - (grp / (1000 : Int32)) / (10 : Int32) * (10 : Int32))) + ((grp / (100 : Int32)) - (grp / (100 : Int32)) / (10 : Int32) * (10 : Int32))) ((grp / (10 : Int32)) - (grp / (10 : Int32)) / (10 : Int32) * (10 : Int32)) (grp - grp / (10 : Int32) * (10 : Int32)))) H := vP_perm hP (pmI _).symm
    have hD : va_D A (cS cy a (w_X2_goOften v (((10 : Int32) * ((grp / (1000 : Int32)) - (grp / (1000 : Int32)) / (10 : Int32) * (10 : Int32))) + ((grp / (100 : Int32)) - (grp / (100 : Int32)) / (10 : Int32) * (10 : Int32))) ((grp / (10 : Int32)) - (grp / (10 : Int32)) / (10 : Int32) * (10 : Int32)) (grp - grp / (10 : Int32) * (10 : Int32)))) := vD_perm hD (pmI _).symm
    have hr9 : (r_X2_goOften v (((10 : Int32) * ((grp / (1000 : Int32)) - (grp / (1000 : Int32)) / (10 : Int32) * (10 : Int32))) + ((grp / (100 : Int32)) - (grp / (100 : Int32)) / (10 : Int32) * (10 : Int32))) ((grp / (10 : Int32)) - (grp / (10 : Int32)) / (10 : Int32) * (10 : Int32)) (grp - grp / (10 : Int32) * (10 : Int32))) = (r_X2_succeeds v grp) := by unfold r_X2_succeeds; simp only [if_pos c_1, if_true, if_false]
    have hw9 : (w_X2_succeeds v grp) = (w_X2_goOften v (((10 : Int32) * ((grp / (1000 : Int32)) - (grp / (1000 : Int32)) / (10 : Int32) * (10 : Int32))) + ((grp / (100 : Int32)) - (grp / (100 : Int32)) / (10 : Int32) * (10 : Int32))) ((grp / (10 : Int32)) - (grp / (10 : Int32)) / (10 : Int32) * (10 : Int32)) (grp - grp / (10 : Int32) * (10 : Int32))) := by unfold w_X2_succeeds; simp only [if_pos c_1, if_true, if_false]
    exact hret _ H locs _ ls hr9 (by rw [hw9]; exact hP) (by rw [hw9]; exact hD) hS dX2_succeeds_114
  · by_cases c_2 : (grp / (10000 : Int32)) = 2
    · refine lv_tableIn (tgt := 115) (off := 61) hx hb dX2_succeeds_54 (by rw [c_2]; decide) (by rw [c_2]; decide) (by rw [c_2]; rfl) (by decide) ?_
      refine lv_iload hx hb dX2_succeeds_115 (lv_at hl 2 rfl) ?_
      have J136_12 : ∀ (z_11 : Int32) (hz_11 : z_11 = (if (grp - grp / (10 : Int32) * (10 : Int32)) = 0 then (if (r_X2_changeDesk v ((grp / (1000 : Int32)) - (grp / (1000 : Int32)) / (10 : Int32) * (10 : Int32)) ((grp / (100 : Int32)) - (grp / (100 : Int32)) / (10 : Int32) * (10 : Int32)) ((grp / (10 : Int32)) - (grp / (10 : Int32)) / (10 : Int32) * (10 : Int32))) = 0 then (0 : Int32) else (1 : Int32)) else (0 : Int32))) (z_12 : SV) (hz_12 : z_12 = (if (grp - grp / (10 : Int32) * (10 : Int32)) = 0 then (w_X2_changeDesk v ((grp / (1000 : Int32)) - (grp / (1000 : Int32)) / (10 : Int32) * (10 : Int32)) ((grp / (100 : Int32)) - (grp / (100 : Int32)) / (10 : Int32) * (10 : Int32)) ((grp / (10 : Int32)) - (grp / (10 : Int32)) / (10 : Int32) * (10 : Int32))) else v)) (H : Heap) (locs : List Loc), va_P D vwCl (cS cy a z_12) H → va_D A (cS cy a z_12) → va_S A s.heap H locs → ∀ ls : Array Slot, lv_has ls 8 [(0, .ref (a 0 0)), (1, .int grp), (2, .int ((grp / (1000 : Int32)) - (grp / (1000 : Int32)) / (10 : Int32) * (10 : Int32))), (3, .int ((grp / (100 : Int32)) - (grp / (100 : Int32)) / (10 : Int32) * (10 : Int32))), (4, .int ((grp / (10 : Int32)) - (grp / (10 : Int32)) / (10 : Int32) * (10 : Int32))), (5, .int (grp - grp / (10 : Int32) * (10 : Int32))), (6, .int (((10 : Int32) * ((grp / (1000 : Int32)) - (grp / (1000 : Int32)) / (10 : Int32) * (10 : Int32))) + ((grp / (100 : Int32)) - (grp / (100 : Int32)) / (10 : Int32) * (10 : Int32)))), (7, .int (((10 : Int32) * ((grp / (100 : Int32)) - (grp / (100 : Int32)) / (10 : Int32) * (10 : Int32))) + ((grp / (10 : Int32)) - (grp / (10 : Int32)) / (10 : Int32) * (10 : Int32))))] → W pp l e rX2_succeeds s m ([.ref (a 0 0), .int grp] : List Value).toArray below meth c H locs 0 0 Q (F0 m 136 ls [.int z_11]) := by
        intro z_11 hz_11 z_12 hz_12 H locs hP hD hS ls hl
        subst hz_11
        subst hz_12
        have hr9 : (if (grp - grp / (10 : Int32) * (10 : Int32)) = 0 then (if (r_X2_changeDesk v ((grp / (1000 : Int32)) - (grp / (1000 : Int32)) / (10 : Int32) * (10 : Int32)) ((grp / (100 : Int32)) - (grp / (100 : Int32)) / (10 : Int32) * (10 : Int32)) ((grp / (10 : Int32)) - (grp / (10 : Int32)) / (10 : Int32) * (10 : Int32))) = 0 then (0 : Int32) else (1 : Int32)) else (0 : Int32)) = (r_X2_succeeds v grp) := by unfold r_X2_succeeds; simp only [if_neg c_1, if_pos c_2, if_true, if_false]
        have hw9 : (w_X2_succeeds v grp) = (if (grp - grp / (10 : Int32) * (10 : Int32)) = 0 then (w_X2_changeDesk v ((grp / (1000 : Int32)) - (grp / (1000 : Int32)) / (10 : Int32) * (10 : Int32)) ((grp / (100 : Int32)) - (grp / (100 : Int32)) / (10 : Int32) * (10 : Int32)) ((grp / (10 : Int32)) - (grp / (10 : Int32)) / (10 : Int32) * (10 : Int32))) else v) := by unfold w_X2_succeeds; simp only [if_neg c_1, if_pos c_2, if_true, if_false]
        exact hret _ H locs _ ls hr9 (by rw [hw9]; exact hP) (by rw [hw9]; exact hD) hS dX2_succeeds_136
      refine lv_if_ne (tgt := 135) hx hb dX2_succeeds_117 (by decide) (fun c_10 => ?_) (fun c_10 => ?_)
      · refine lv_iconst (v := 0) hx hb dX2_succeeds_135 (by decide) ?_
        exact J136_12 (0 : Int32) (by simp only [if_neg c_10, if_true, if_false]) v (by simp only [if_neg c_10, if_true, if_false]) H locs hP hD hS ls (lv_sub hl [6, 7, 5, 4, 3, 2, 1, 0] rfl)
      · refine lv_aload_n hx hb dX2_succeeds_120 rfl (lv_at hl 6 rfl) ?_
        refine lv_iload_n hx hb dX2_succeeds_121 rfl (lv_at hl 5 rfl) ?_
        refine lv_iload_n hx hb dX2_succeeds_122 rfl (lv_at hl 4 rfl) ?_
        refine lv_iload hx hb dX2_succeeds_123 (lv_at hl 3 rfl) ?_
        refine cl_i (va_runS (As := [.ref (a 0 0), .int ((grp / (1000 : Int32)) - (grp / (1000 : Int32)) / (10 : Int32) * (10 : Int32)), .int ((grp / (100 : Int32)) - (grp / (100 : Int32)) / (10 : Int32) * (10 : Int32)), .int ((grp / (10 : Int32)) - (grp / (10 : Int32)) / (10 : Int32) * (10 : Int32))]) (rest := []) ⟨hx, hb, hml, hown, hts⟩ (c_X2_changeDesk l D cy a v ((grp / (1000 : Int32)) - (grp / (1000 : Int32)) / (10 : Int32) * (10 : Int32)) ((grp / (100 : Int32)) - (grp / (100 : Int32)) / (10 : Int32) * (10 : Int32)) ((grp / (10 : Int32)) - (grp / (10 : Int32)) / (10 : Int32) * (10 : Int32)) H.size) (va_cwS 4 hts gX2_succeeds_X2_changeDesk rfl rfl rfl (by decide +kernel) ⟨Nat.le_of_ble_eq_true rfl, Nat.le_of_ble_eq_true rfl⟩) ⟨blU, preU hP hD (pmI _) hK hE hS hA⟩ rfl rfl hl.1 rfl (lv_room (Nat.le_of_ble_eq_true rfl)) dX2_succeeds_125 ⟨Nat.le_of_ble_eq_true rfl, Nat.le_of_ble_eq_true rfl⟩) hP hD (pmI _) hS hA (fun H locs hP hD hS => ?_)
        have hP : va_P D vwCl (cS cy a (w_X2_changeDesk v ((grp / (1000 : Int32)) - (grp / (1000 : Int32)) / (10 : Int32) * (10 : Int32)) ((grp / (100 : Int32)) - (grp / (100 : Int32)) / (10 : Int32) * (10 : Int32)) ((grp / (10 : Int32)) - (grp / (10 : Int32)) / (10 : Int32) * (10 : Int32)))) H := vP_perm hP (pmI _).symm
        have hD : va_D A (cS cy a (w_X2_changeDesk v ((grp / (1000 : Int32)) - (grp / (1000 : Int32)) / (10 : Int32) * (10 : Int32)) ((grp / (100 : Int32)) - (grp / (100 : Int32)) / (10 : Int32) * (10 : Int32)) ((grp / (10 : Int32)) - (grp / (10 : Int32)) / (10 : Int32) * (10 : Int32)))) := vD_perm hD (pmI _).symm
        refine lv_if_eq (tgt := 135) hx hb dX2_succeeds_128 (by decide) (fun c_14 => ?_) (fun c_14 => ?_)
        · refine lv_iconst (v := 0) hx hb dX2_succeeds_135 (by decide) ?_
          exact J136_12 (0 : Int32) (by simp only [if_pos c_10, if_pos c_14, if_true, if_false]) (w_X2_changeDesk v ((grp / (1000 : Int32)) - (grp / (1000 : Int32)) / (10 : Int32) * (10 : Int32)) ((grp / (100 : Int32)) - (grp / (100 : Int32)) / (10 : Int32) * (10 : Int32)) ((grp / (10 : Int32)) - (grp / (10 : Int32)) / (10 : Int32) * (10 : Int32))) (by simp only [if_pos c_10, if_pos c_14, if_true, if_false]) H locs hP hD hS ls (lv_sub hl [6, 7, 5, 4, 3, 2, 1, 0] rfl)
        · refine lv_iconst (v := 1) hx hb dX2_succeeds_131 (by decide) ?_
          refine lv_goto (tgt := 136) hx hb dX2_succeeds_132 (by decide) ?_
          exact J136_12 (1 : Int32) (by simp only [if_pos c_10, if_neg c_14, if_true, if_false]) (w_X2_changeDesk v ((grp / (1000 : Int32)) - (grp / (1000 : Int32)) / (10 : Int32) * (10 : Int32)) ((grp / (100 : Int32)) - (grp / (100 : Int32)) / (10 : Int32) * (10 : Int32)) ((grp / (10 : Int32)) - (grp / (10 : Int32)) / (10 : Int32) * (10 : Int32))) (by simp only [if_pos c_10, if_neg c_14, if_true, if_false]) H locs hP hD hS ls (lv_sub hl [6, 7, 5, 4, 3, 2, 1, 0] rfl)
    · by_cases c_3 : (grp / (10000 : Int32)) = 3
      · refine lv_tableIn (tgt := 137) (off := 83) hx hb dX2_succeeds_54 (by rw [c_3]; decide) (by rw [c_3]; decide) (by rw [c_3]; rfl) (by decide) ?_
        refine lv_iload hx hb dX2_succeeds_137 (lv_at hl 3 rfl) ?_
        have J161_17 : ∀ (z_16 : Int32) (hz_16 : z_16 = (if ((grp / (10 : Int32)) - (grp / (10 : Int32)) / (10 : Int32) * (10 : Int32)) = 0 then (if (grp - grp / (10 : Int32) * (10 : Int32)) = 0 then (if (r_X2_changeBoth v ((grp / (1000 : Int32)) - (grp / (1000 : Int32)) / (10 : Int32) * (10 : Int32)) ((grp / (100 : Int32)) - (grp / (100 : Int32)) / (10 : Int32) * (10 : Int32))) = 0 then (0 : Int32) else (1 : Int32)) else (0 : Int32)) else (0 : Int32))) (z_17 : SV) (hz_17 : z_17 = (if ((grp / (10 : Int32)) - (grp / (10 : Int32)) / (10 : Int32) * (10 : Int32)) = 0 then (if (grp - grp / (10 : Int32) * (10 : Int32)) = 0 then (w_X2_changeBoth v ((grp / (1000 : Int32)) - (grp / (1000 : Int32)) / (10 : Int32) * (10 : Int32)) ((grp / (100 : Int32)) - (grp / (100 : Int32)) / (10 : Int32) * (10 : Int32))) else v) else v)) (H : Heap) (locs : List Loc), va_P D vwCl (cS cy a z_17) H → va_D A (cS cy a z_17) → va_S A s.heap H locs → ∀ ls : Array Slot, lv_has ls 8 [(0, .ref (a 0 0)), (1, .int grp), (2, .int ((grp / (1000 : Int32)) - (grp / (1000 : Int32)) / (10 : Int32) * (10 : Int32))), (3, .int ((grp / (100 : Int32)) - (grp / (100 : Int32)) / (10 : Int32) * (10 : Int32))), (4, .int ((grp / (10 : Int32)) - (grp / (10 : Int32)) / (10 : Int32) * (10 : Int32))), (5, .int (grp - grp / (10 : Int32) * (10 : Int32))), (6, .int (((10 : Int32) * ((grp / (1000 : Int32)) - (grp / (1000 : Int32)) / (10 : Int32) * (10 : Int32))) + ((grp / (100 : Int32)) - (grp / (100 : Int32)) / (10 : Int32) * (10 : Int32)))), (7, .int (((10 : Int32) * ((grp / (100 : Int32)) - (grp / (100 : Int32)) / (10 : Int32) * (10 : Int32))) + ((grp / (10 : Int32)) - (grp / (10 : Int32)) / (10 : Int32) * (10 : Int32))))] → W pp l e rX2_succeeds s m ([.ref (a 0 0), .int grp] : List Value).toArray below meth c H locs 0 0 Q (F0 m 161 ls [.int z_16]) := by
          intro z_16 hz_16 z_17 hz_17 H locs hP hD hS ls hl
          subst hz_16
          subst hz_17
          have hr9 : (if ((grp / (10 : Int32)) - (grp / (10 : Int32)) / (10 : Int32) * (10 : Int32)) = 0 then (if (grp - grp / (10 : Int32) * (10 : Int32)) = 0 then (if (r_X2_changeBoth v ((grp / (1000 : Int32)) - (grp / (1000 : Int32)) / (10 : Int32) * (10 : Int32)) ((grp / (100 : Int32)) - (grp / (100 : Int32)) / (10 : Int32) * (10 : Int32))) = 0 then (0 : Int32) else (1 : Int32)) else (0 : Int32)) else (0 : Int32)) = (r_X2_succeeds v grp) := by unfold r_X2_succeeds; simp only [if_neg c_1, if_neg c_2, if_pos c_3, if_true, if_false]
          have hw9 : (w_X2_succeeds v grp) = (if ((grp / (10 : Int32)) - (grp / (10 : Int32)) / (10 : Int32) * (10 : Int32)) = 0 then (if (grp - grp / (10 : Int32) * (10 : Int32)) = 0 then (w_X2_changeBoth v ((grp / (1000 : Int32)) - (grp / (1000 : Int32)) / (10 : Int32) * (10 : Int32)) ((grp / (100 : Int32)) - (grp / (100 : Int32)) / (10 : Int32) * (10 : Int32))) else v) else v) := by unfold w_X2_succeeds; simp only [if_neg c_1, if_neg c_2, if_pos c_3, if_true, if_false]
          exact hret _ H locs _ ls hr9 (by rw [hw9]; exact hP) (by rw [hw9]; exact hD) hS dX2_succeeds_161
        refine lv_if_ne (tgt := 160) hx hb dX2_succeeds_139 (by decide) (fun c_15 => ?_) (fun c_15 => ?_)
        · refine lv_iconst (v := 0) hx hb dX2_succeeds_160 (by decide) ?_
          exact J161_17 (0 : Int32) (by simp only [if_neg c_15, if_true, if_false]) v (by simp only [if_neg c_15, if_true, if_false]) H locs hP hD hS ls (lv_sub hl [6, 7, 5, 4, 3, 2, 1, 0] rfl)
        · refine lv_iload hx hb dX2_succeeds_142 (lv_at hl 2 rfl) ?_
          refine lv_if_ne (tgt := 160) hx hb dX2_succeeds_144 (by decide) (fun c_19 => ?_) (fun c_19 => ?_)
          · refine lv_iconst (v := 0) hx hb dX2_succeeds_160 (by decide) ?_
            exact J161_17 (0 : Int32) (by simp only [if_pos c_15, if_neg c_19, if_true, if_false]) v (by simp only [if_pos c_15, if_neg c_19, if_true, if_false]) H locs hP hD hS ls (lv_sub hl [6, 7, 5, 4, 3, 2, 1, 0] rfl)
          · refine lv_aload_n hx hb dX2_succeeds_147 rfl (lv_at hl 6 rfl) ?_
            refine lv_iload_n hx hb dX2_succeeds_148 rfl (lv_at hl 5 rfl) ?_
            refine lv_iload_n hx hb dX2_succeeds_149 rfl (lv_at hl 4 rfl) ?_
            refine cl_i (va_runS (As := [.ref (a 0 0), .int ((grp / (1000 : Int32)) - (grp / (1000 : Int32)) / (10 : Int32) * (10 : Int32)), .int ((grp / (100 : Int32)) - (grp / (100 : Int32)) / (10 : Int32) * (10 : Int32))]) (rest := []) ⟨hx, hb, hml, hown, hts⟩ (c_X2_changeBoth l D cy a v ((grp / (1000 : Int32)) - (grp / (1000 : Int32)) / (10 : Int32) * (10 : Int32)) ((grp / (100 : Int32)) - (grp / (100 : Int32)) / (10 : Int32) * (10 : Int32)) H.size) (va_cwS 3 hts gX2_succeeds_X2_changeBoth rfl rfl rfl (by decide +kernel) ⟨Nat.le_of_ble_eq_true rfl, Nat.le_of_ble_eq_true rfl⟩) ⟨blU, preU hP hD (pmI _) hK hE hS hA⟩ rfl rfl hl.1 rfl (lv_room (Nat.le_of_ble_eq_true rfl)) dX2_succeeds_150 ⟨Nat.le_of_ble_eq_true rfl, Nat.le_of_ble_eq_true rfl⟩) hP hD (pmI _) hS hA (fun H locs hP hD hS => ?_)
            have hP : va_P D vwCl (cS cy a (w_X2_changeBoth v ((grp / (1000 : Int32)) - (grp / (1000 : Int32)) / (10 : Int32) * (10 : Int32)) ((grp / (100 : Int32)) - (grp / (100 : Int32)) / (10 : Int32) * (10 : Int32)))) H := vP_perm hP (pmI _).symm
            have hD : va_D A (cS cy a (w_X2_changeBoth v ((grp / (1000 : Int32)) - (grp / (1000 : Int32)) / (10 : Int32) * (10 : Int32)) ((grp / (100 : Int32)) - (grp / (100 : Int32)) / (10 : Int32) * (10 : Int32)))) := vD_perm hD (pmI _).symm
            refine lv_if_eq (tgt := 160) hx hb dX2_succeeds_153 (by decide) (fun c_20 => ?_) (fun c_20 => ?_)
            · refine lv_iconst (v := 0) hx hb dX2_succeeds_160 (by decide) ?_
              exact J161_17 (0 : Int32) (by simp only [if_pos c_15, if_pos c_19, if_pos c_20, if_true, if_false]) (w_X2_changeBoth v ((grp / (1000 : Int32)) - (grp / (1000 : Int32)) / (10 : Int32) * (10 : Int32)) ((grp / (100 : Int32)) - (grp / (100 : Int32)) / (10 : Int32) * (10 : Int32))) (by simp only [if_pos c_15, if_pos c_19, if_pos c_20, if_true, if_false]) H locs hP hD hS ls (lv_sub hl [6, 7, 5, 4, 3, 2, 1, 0] rfl)
            · refine lv_iconst (v := 1) hx hb dX2_succeeds_156 (by decide) ?_
              refine lv_goto (tgt := 161) hx hb dX2_succeeds_157 (by decide) ?_
              exact J161_17 (1 : Int32) (by simp only [if_pos c_15, if_pos c_19, if_neg c_20, if_true, if_false]) (w_X2_changeBoth v ((grp / (1000 : Int32)) - (grp / (1000 : Int32)) / (10 : Int32) * (10 : Int32)) ((grp / (100 : Int32)) - (grp / (100 : Int32)) / (10 : Int32) * (10 : Int32))) (by simp only [if_pos c_15, if_pos c_19, if_neg c_20, if_true, if_false]) H locs hP hD hS ls (lv_sub hl [6, 7, 5, 4, 3, 2, 1, 0] rfl)
      · by_cases c_4 : (grp / (10000 : Int32)) = 4
        · refine lv_tableIn (tgt := 162) (off := 108) hx hb dX2_succeeds_54 (by rw [c_4]; decide) (by rw [c_4]; decide) (by rw [c_4]; rfl) (by decide) ?_
          refine lv_iload_n hx hb dX2_succeeds_162 rfl (lv_at hl 7 rfl) ?_
          refine lv_sipush (v := 10000) hx hb dX2_succeeds_163 (by decide) ?_
          refine lv_irem hx hb dX2_succeeds_166 (by decide) ?_
          have J182_23 : ∀ (z_22 : Int32) (hz_22 : z_22 = (if (grp - grp / (10000 : Int32) * (10000 : Int32)) = 0 then (if (r_X2_forgetAll v) = 0 then (0 : Int32) else (1 : Int32)) else (0 : Int32))) (z_23 : SV) (hz_23 : z_23 = (if (grp - grp / (10000 : Int32) * (10000 : Int32)) = 0 then (w_X2_forgetAll v) else v)) (H : Heap) (locs : List Loc), va_P D vwCl (cS cy a z_23) H → va_D A (cS cy a z_23) → va_S A s.heap H locs → ∀ ls : Array Slot, lv_has ls 8 [(0, .ref (a 0 0)), (1, .int grp), (2, .int ((grp / (1000 : Int32)) - (grp / (1000 : Int32)) / (10 : Int32) * (10 : Int32))), (3, .int ((grp / (100 : Int32)) - (grp / (100 : Int32)) / (10 : Int32) * (10 : Int32))), (4, .int ((grp / (10 : Int32)) - (grp / (10 : Int32)) / (10 : Int32) * (10 : Int32))), (5, .int (grp - grp / (10 : Int32) * (10 : Int32))), (6, .int (((10 : Int32) * ((grp / (1000 : Int32)) - (grp / (1000 : Int32)) / (10 : Int32) * (10 : Int32))) + ((grp / (100 : Int32)) - (grp / (100 : Int32)) / (10 : Int32) * (10 : Int32)))), (7, .int (((10 : Int32) * ((grp / (100 : Int32)) - (grp / (100 : Int32)) / (10 : Int32) * (10 : Int32))) + ((grp / (10 : Int32)) - (grp / (10 : Int32)) / (10 : Int32) * (10 : Int32))))] → W pp l e rX2_succeeds s m ([.ref (a 0 0), .int grp] : List Value).toArray below meth c H locs 0 0 Q (F0 m 182 ls [.int z_22]) := by
            intro z_22 hz_22 z_23 hz_23 H locs hP hD hS ls hl
            subst hz_22
            subst hz_23
            have hr9 : (if (grp - grp / (10000 : Int32) * (10000 : Int32)) = 0 then (if (r_X2_forgetAll v) = 0 then (0 : Int32) else (1 : Int32)) else (0 : Int32)) = (r_X2_succeeds v grp) := by unfold r_X2_succeeds; simp only [if_neg c_1, if_neg c_2, if_neg c_3, if_pos c_4, if_true, if_false]
            have hw9 : (w_X2_succeeds v grp) = (if (grp - grp / (10000 : Int32) * (10000 : Int32)) = 0 then (w_X2_forgetAll v) else v) := by unfold w_X2_succeeds; simp only [if_neg c_1, if_neg c_2, if_neg c_3, if_pos c_4, if_true, if_false]
            exact hret _ H locs _ ls hr9 (by rw [hw9]; exact hP) (by rw [hw9]; exact hD) hS dX2_succeeds_182
          refine lv_if_ne (tgt := 181) hx hb dX2_succeeds_167 (by decide) (fun c_21 => ?_) (fun c_21 => ?_)
          · refine lv_iconst (v := 0) hx hb dX2_succeeds_181 (by decide) ?_
            exact J182_23 (0 : Int32) (by simp only [if_neg c_21, if_true, if_false]) v (by simp only [if_neg c_21, if_true, if_false]) H locs hP hD hS ls (lv_sub hl [6, 7, 5, 4, 3, 2, 1, 0] rfl)
          · refine lv_aload_n hx hb dX2_succeeds_170 rfl (lv_at hl 6 rfl) ?_
            refine cl_i (va_runS (As := [.ref (a 0 0)]) (rest := []) ⟨hx, hb, hml, hown, hts⟩ (c_X2_forgetAll l D cy a v H.size) (va_cwS 1 hts gX2_succeeds_X2_forgetAll rfl rfl rfl (by decide +kernel) ⟨Nat.le_of_ble_eq_true rfl, Nat.le_of_ble_eq_true rfl⟩) ⟨blU, preU hP hD (pmI _) hK hE hS hA⟩ rfl rfl hl.1 rfl (lv_room (Nat.le_of_ble_eq_true rfl)) dX2_succeeds_171 ⟨Nat.le_of_ble_eq_true rfl, Nat.le_of_ble_eq_true rfl⟩) hP hD (pmI _) hS hA (fun H locs hP hD hS => ?_)
            have hP : va_P D vwCl (cS cy a (w_X2_forgetAll v)) H := vP_perm hP (pmI _).symm
            have hD : va_D A (cS cy a (w_X2_forgetAll v)) := vD_perm hD (pmI _).symm
            refine lv_if_eq (tgt := 181) hx hb dX2_succeeds_174 (by decide) (fun c_25 => ?_) (fun c_25 => ?_)
            · refine lv_iconst (v := 0) hx hb dX2_succeeds_181 (by decide) ?_
              exact J182_23 (0 : Int32) (by simp only [if_pos c_21, if_pos c_25, if_true, if_false]) (w_X2_forgetAll v) (by simp only [if_pos c_21, if_pos c_25, if_true, if_false]) H locs hP hD hS ls (lv_sub hl [6, 7, 5, 4, 3, 2, 1, 0] rfl)
            · refine lv_iconst (v := 1) hx hb dX2_succeeds_177 (by decide) ?_
              refine lv_goto (tgt := 182) hx hb dX2_succeeds_178 (by decide) ?_
              exact J182_23 (1 : Int32) (by simp only [if_pos c_21, if_neg c_25, if_true, if_false]) (w_X2_forgetAll v) (by simp only [if_pos c_21, if_neg c_25, if_true, if_false]) H locs hP hD hS ls (lv_sub hl [6, 7, 5, 4, 3, 2, 1, 0] rfl)
        · by_cases c_5 : (grp / (10000 : Int32)) = 5
          · refine lv_tableIn (tgt := 183) (off := 129) hx hb dX2_succeeds_54 (by rw [c_5]; decide) (by rw [c_5]; decide) (by rw [c_5]; rfl) (by decide) ?_
            refine lv_aload_n hx hb dX2_succeeds_183 rfl (lv_at hl 6 rfl) ?_
            refine lv_iload_n hx hb dX2_succeeds_184 rfl (lv_at hl 5 rfl) ?_
            refine lv_iload hx hb dX2_succeeds_185 (lv_at hl 0 rfl) ?_
            refine lv_iload hx hb dX2_succeeds_187 (lv_at hl 2 rfl) ?_
            refine cl_i (va_runS (As := [.ref (a 0 0), .int ((grp / (1000 : Int32)) - (grp / (1000 : Int32)) / (10 : Int32) * (10 : Int32)), .int (((10 : Int32) * ((grp / (100 : Int32)) - (grp / (100 : Int32)) / (10 : Int32) * (10 : Int32))) + ((grp / (10 : Int32)) - (grp / (10 : Int32)) / (10 : Int32) * (10 : Int32))), .int (grp - grp / (10 : Int32) * (10 : Int32))]) (rest := []) ⟨hx, hb, hml, hown, hts⟩ (c_X2_makeStrength l D cy a v ((grp / (1000 : Int32)) - (grp / (1000 : Int32)) / (10 : Int32) * (10 : Int32)) (((10 : Int32) * ((grp / (100 : Int32)) - (grp / (100 : Int32)) / (10 : Int32) * (10 : Int32))) + ((grp / (10 : Int32)) - (grp / (10 : Int32)) / (10 : Int32) * (10 : Int32))) (grp - grp / (10 : Int32) * (10 : Int32)) H.size hsz2) (va_cwS 4 hts gX2_succeeds_X2_makeStrength rfl rfl rfl (by decide +kernel) ⟨Nat.le_of_ble_eq_true rfl, Nat.le_of_ble_eq_true rfl⟩) ⟨blU, preU hP hD (pmI _) hK hE hS hA⟩ rfl rfl hl.1 rfl (lv_room (Nat.le_of_ble_eq_true rfl)) dX2_succeeds_189 ⟨Nat.le_of_ble_eq_true rfl, Nat.le_of_ble_eq_true rfl⟩) hP hD (pmI _) hS hA (fun H locs hP hD hS => ?_)
            have hP : va_P D vwCl (cS cy a (w_X2_makeStrength v ((grp / (1000 : Int32)) - (grp / (1000 : Int32)) / (10 : Int32) * (10 : Int32)) (((10 : Int32) * ((grp / (100 : Int32)) - (grp / (100 : Int32)) / (10 : Int32) * (10 : Int32))) + ((grp / (10 : Int32)) - (grp / (10 : Int32)) / (10 : Int32) * (10 : Int32))) (grp - grp / (10 : Int32) * (10 : Int32)))) H := vP_perm hP (pmI _).symm
            have hD : va_D A (cS cy a (w_X2_makeStrength v ((grp / (1000 : Int32)) - (grp / (1000 : Int32)) / (10 : Int32) * (10 : Int32)) (((10 : Int32) * ((grp / (100 : Int32)) - (grp / (100 : Int32)) / (10 : Int32) * (10 : Int32))) + ((grp / (10 : Int32)) - (grp / (10 : Int32)) / (10 : Int32) * (10 : Int32))) (grp - grp / (10 : Int32) * (10 : Int32)))) := vD_perm hD (pmI _).symm
            have hr9 : (r_X2_makeStrength v ((grp / (1000 : Int32)) - (grp / (1000 : Int32)) / (10 : Int32) * (10 : Int32)) (((10 : Int32) * ((grp / (100 : Int32)) - (grp / (100 : Int32)) / (10 : Int32) * (10 : Int32))) + ((grp / (10 : Int32)) - (grp / (10 : Int32)) / (10 : Int32) * (10 : Int32))) (grp - grp / (10 : Int32) * (10 : Int32))) = (r_X2_succeeds v grp) := by unfold r_X2_succeeds; simp only [if_neg c_1, if_neg c_2, if_neg c_3, if_neg c_4, if_pos c_5, if_true, if_false]
            have hw9 : (w_X2_succeeds v grp) = (w_X2_makeStrength v ((grp / (1000 : Int32)) - (grp / (1000 : Int32)) / (10 : Int32) * (10 : Int32)) (((10 : Int32) * ((grp / (100 : Int32)) - (grp / (100 : Int32)) / (10 : Int32) * (10 : Int32))) + ((grp / (10 : Int32)) - (grp / (10 : Int32)) / (10 : Int32) * (10 : Int32))) (grp - grp / (10 : Int32) * (10 : Int32))) := by unfold w_X2_succeeds; simp only [if_neg c_1, if_neg c_2, if_neg c_3, if_neg c_4, if_pos c_5, if_true, if_false]
            exact hret _ H locs _ ls hr9 (by rw [hw9]; exact hP) (by rw [hw9]; exact hD) hS dX2_succeeds_192
          · by_cases c_6 : (grp / (10000 : Int32)) = 6
            · refine lv_tableIn (tgt := 193) (off := 139) hx hb dX2_succeeds_54 (by rw [c_6]; decide) (by rw [c_6]; decide) (by rw [c_6]; rfl) (by decide) ?_
              refine lv_iload hx hb dX2_succeeds_193 (lv_at hl 2 rfl) ?_
              have J214_27 : ∀ (z_27 : Int32) (hz_27 : z_27 = (if (grp - grp / (10 : Int32) * (10 : Int32)) = 0 then (if (r_X2_isGuess v (((10 : Int32) * ((grp / (1000 : Int32)) - (grp / (1000 : Int32)) / (10 : Int32) * (10 : Int32))) + ((grp / (100 : Int32)) - (grp / (100 : Int32)) / (10 : Int32) * (10 : Int32))) ((grp / (10 : Int32)) - (grp / (10 : Int32)) / (10 : Int32) * (10 : Int32))) = 0 then (0 : Int32) else (1 : Int32)) else (0 : Int32))) (H : Heap) (locs : List Loc), va_P D vwCl (cS cy a v) H → va_D A (cS cy a v) → va_S A s.heap H locs → ∀ ls : Array Slot, lv_has ls 8 [(0, .ref (a 0 0)), (1, .int grp), (2, .int ((grp / (1000 : Int32)) - (grp / (1000 : Int32)) / (10 : Int32) * (10 : Int32))), (3, .int ((grp / (100 : Int32)) - (grp / (100 : Int32)) / (10 : Int32) * (10 : Int32))), (4, .int ((grp / (10 : Int32)) - (grp / (10 : Int32)) / (10 : Int32) * (10 : Int32))), (5, .int (grp - grp / (10 : Int32) * (10 : Int32))), (6, .int (((10 : Int32) * ((grp / (1000 : Int32)) - (grp / (1000 : Int32)) / (10 : Int32) * (10 : Int32))) + ((grp / (100 : Int32)) - (grp / (100 : Int32)) / (10 : Int32) * (10 : Int32)))), (7, .int (((10 : Int32) * ((grp / (100 : Int32)) - (grp / (100 : Int32)) / (10 : Int32) * (10 : Int32))) + ((grp / (10 : Int32)) - (grp / (10 : Int32)) / (10 : Int32) * (10 : Int32))))] → W pp l e rX2_succeeds s m ([.ref (a 0 0), .int grp] : List Value).toArray below meth c H locs 0 0 Q (F0 m 214 ls [.int z_27]) := by
                intro z_27 hz_27 H locs hP hD hS ls hl
                subst hz_27
                have hr9 : (if (grp - grp / (10 : Int32) * (10 : Int32)) = 0 then (if (r_X2_isGuess v (((10 : Int32) * ((grp / (1000 : Int32)) - (grp / (1000 : Int32)) / (10 : Int32) * (10 : Int32))) + ((grp / (100 : Int32)) - (grp / (100 : Int32)) / (10 : Int32) * (10 : Int32))) ((grp / (10 : Int32)) - (grp / (10 : Int32)) / (10 : Int32) * (10 : Int32))) = 0 then (0 : Int32) else (1 : Int32)) else (0 : Int32)) = (r_X2_succeeds v grp) := by unfold r_X2_succeeds; simp only [if_neg c_1, if_neg c_2, if_neg c_3, if_neg c_4, if_neg c_5, if_pos c_6, if_true, if_false]
                have hw9 : (w_X2_succeeds v grp) = v := by unfold w_X2_succeeds; simp only [if_neg c_1, if_neg c_2, if_neg c_3, if_neg c_4, if_neg c_5, if_pos c_6, if_true, if_false]
                exact hret _ H locs _ ls hr9 (by rw [hw9]; exact hP) (by rw [hw9]; exact hD) hS dX2_succeeds_214
              refine lv_if_ne (tgt := 213) hx hb dX2_succeeds_195 (by decide) (fun c_26 => ?_) (fun c_26 => ?_)
              · refine lv_iconst (v := 0) hx hb dX2_succeeds_213 (by decide) ?_
                exact J214_27 (0 : Int32) (by simp only [if_neg c_26, if_true, if_false]) H locs hP hD hS ls (lv_sub hl [6, 7, 5, 4, 3, 2, 1, 0] rfl)
              · refine lv_aload_n hx hb dX2_succeeds_198 rfl (lv_at hl 6 rfl) ?_
                refine lv_iload hx hb dX2_succeeds_199 (lv_at hl 1 rfl) ?_
                refine lv_iload hx hb dX2_succeeds_201 (lv_at hl 3 rfl) ?_
                refine cl_i (va_runS (As := [.ref (a 0 0), .int (((10 : Int32) * ((grp / (1000 : Int32)) - (grp / (1000 : Int32)) / (10 : Int32) * (10 : Int32))) + ((grp / (100 : Int32)) - (grp / (100 : Int32)) / (10 : Int32) * (10 : Int32))), .int ((grp / (10 : Int32)) - (grp / (10 : Int32)) / (10 : Int32) * (10 : Int32))]) (rest := []) ⟨hx, hb, hml, hown, hts⟩ (c_X2_isGuess l D cy a v (((10 : Int32) * ((grp / (1000 : Int32)) - (grp / (1000 : Int32)) / (10 : Int32) * (10 : Int32))) + ((grp / (100 : Int32)) - (grp / (100 : Int32)) / (10 : Int32) * (10 : Int32))) ((grp / (10 : Int32)) - (grp / (10 : Int32)) / (10 : Int32) * (10 : Int32)) H.size hsz2) (va_cwS 3 hts gX2_succeeds_X2_isGuess rfl rfl rfl (by decide +kernel) ⟨Nat.le_of_ble_eq_true rfl, Nat.le_of_ble_eq_true rfl⟩) ⟨blU, preU hP hD (pmI _) hK hE hS hA⟩ rfl rfl hl.1 rfl (lv_room (Nat.le_of_ble_eq_true rfl)) dX2_succeeds_203 ⟨Nat.le_of_ble_eq_true rfl, Nat.le_of_ble_eq_true rfl⟩) hP hD (pmI _) hS hA (fun H locs hP hD hS => ?_)
                have hP : va_P D vwCl (cS cy a v) H := vP_perm hP (pmI _).symm
                have hD : va_D A (cS cy a v) := vD_perm hD (pmI _).symm
                refine lv_if_eq (tgt := 213) hx hb dX2_succeeds_206 (by decide) (fun c_29 => ?_) (fun c_29 => ?_)
                · refine lv_iconst (v := 0) hx hb dX2_succeeds_213 (by decide) ?_
                  exact J214_27 (0 : Int32) (by simp only [if_pos c_26, if_pos c_29, if_true, if_false]) H locs hP hD hS ls (lv_sub hl [6, 7, 5, 4, 3, 2, 1, 0] rfl)
                · refine lv_iconst (v := 1) hx hb dX2_succeeds_209 (by decide) ?_
                  refine lv_goto (tgt := 214) hx hb dX2_succeeds_210 (by decide) ?_
                  exact J214_27 (1 : Int32) (by simp only [if_pos c_26, if_neg c_29, if_true, if_false]) H locs hP hD hS ls (lv_sub hl [6, 7, 5, 4, 3, 2, 1, 0] rfl)
            · by_cases c_7 : (grp / (10000 : Int32)) = 7
              · refine lv_tableIn (tgt := 215) (off := 161) hx hb dX2_succeeds_54 (by rw [c_7]; decide) (by rw [c_7]; decide) (by rw [c_7]; rfl) (by decide) ?_
                refine lv_iload_n hx hb dX2_succeeds_215 rfl (lv_at hl 5 rfl) ?_
                have J236_31 : ∀ (z_31 : Int32) (hz_31 : z_31 = (if ((grp / (1000 : Int32)) - (grp / (1000 : Int32)) / (10 : Int32) * (10 : Int32)) = 0 then (if (v.1 6 0) < (grp - grp / (1000 : Int32) * (1000 : Int32)) then (0 : Int32) else (1 : Int32)) else (0 : Int32))) (H : Heap) (locs : List Loc), va_P D vwCl (cS cy a v) H → va_D A (cS cy a v) → va_S A s.heap H locs → ∀ ls : Array Slot, lv_has ls 8 [(0, .ref (a 0 0)), (1, .int grp), (2, .int ((grp / (1000 : Int32)) - (grp / (1000 : Int32)) / (10 : Int32) * (10 : Int32))), (3, .int ((grp / (100 : Int32)) - (grp / (100 : Int32)) / (10 : Int32) * (10 : Int32))), (4, .int ((grp / (10 : Int32)) - (grp / (10 : Int32)) / (10 : Int32) * (10 : Int32))), (5, .int (grp - grp / (10 : Int32) * (10 : Int32))), (6, .int (((10 : Int32) * ((grp / (1000 : Int32)) - (grp / (1000 : Int32)) / (10 : Int32) * (10 : Int32))) + ((grp / (100 : Int32)) - (grp / (100 : Int32)) / (10 : Int32) * (10 : Int32)))), (7, .int (((10 : Int32) * ((grp / (100 : Int32)) - (grp / (100 : Int32)) / (10 : Int32) * (10 : Int32))) + ((grp / (10 : Int32)) - (grp / (10 : Int32)) / (10 : Int32) * (10 : Int32))))] → W pp l e rX2_succeeds s m ([.ref (a 0 0), .int grp] : List Value).toArray below meth c H locs 0 0 Q (F0 m 236 ls [.int z_31]) := by
                  intro z_31 hz_31 H locs hP hD hS ls hl
                  subst hz_31
                  have hr9 : (if ((grp / (1000 : Int32)) - (grp / (1000 : Int32)) / (10 : Int32) * (10 : Int32)) = 0 then (if (v.1 6 0) < (grp - grp / (1000 : Int32) * (1000 : Int32)) then (0 : Int32) else (1 : Int32)) else (0 : Int32)) = (r_X2_succeeds v grp) := by unfold r_X2_succeeds; simp only [if_neg c_1, if_neg c_2, if_neg c_3, if_neg c_4, if_neg c_5, if_neg c_6, if_pos c_7, if_true, if_false]
                  have hw9 : (w_X2_succeeds v grp) = v := by unfold w_X2_succeeds; simp only [if_neg c_1, if_neg c_2, if_neg c_3, if_neg c_4, if_neg c_5, if_neg c_6, if_pos c_7, if_true, if_false]
                  exact hret _ H locs _ ls hr9 (by rw [hw9]; exact hP) (by rw [hw9]; exact hD) hS dX2_succeeds_236
                refine lv_if_ne (tgt := 235) hx hb dX2_succeeds_216 (by decide) (fun c_30 => ?_) (fun c_30 => ?_)
                · refine lv_iconst (v := 0) hx hb dX2_succeeds_235 (by decide) ?_
                  exact J236_31 (0 : Int32) (by simp only [if_neg c_30, if_true, if_false]) H locs hP hD hS ls (lv_sub hl [6, 7, 5, 4, 3, 2, 1, 0] rfl)
                · refine lv_aload_n hx hb dX2_succeeds_219 rfl (lv_at hl 6 rfl) ?_
                  refine va_get (D := D) (ci := 2) (v := .int (v.1 6 0)) (C := RX3) (T := TX3) (N := 11) hx hb hts inX2_succeeds_X3 hown hK hP 0 rfl rfl 7 (by decide) (hts _ (List.mem_of_getElem? (i := 1) rfl)) (fun _ h9 => h9) rfl dX2_succeeds_220 ?_
                  refine lv_iload_n hx hb dX2_succeeds_223 rfl (lv_at hl 7 rfl) ?_
                  refine lv_sipush (v := 1000) hx hb dX2_succeeds_224 (by decide) ?_
                  refine lv_irem hx hb dX2_succeeds_227 (by decide) ?_
                  refine lv_icmp_lt (tgt := 235) hx hb dX2_succeeds_228 (by decide) (fun c_33 => ?_) (fun c_33 => ?_)
                  · refine lv_iconst (v := 0) hx hb dX2_succeeds_235 (by decide) ?_
                    exact J236_31 (0 : Int32) (by simp only [if_pos c_30, if_pos c_33, if_true, if_false]) H locs hP hD hS ls (lv_sub hl [6, 7, 5, 4, 3, 2, 1, 0] rfl)
                  · refine lv_iconst (v := 1) hx hb dX2_succeeds_231 (by decide) ?_
                    refine lv_goto (tgt := 236) hx hb dX2_succeeds_232 (by decide) ?_
                    exact J236_31 (1 : Int32) (by simp only [if_pos c_30, if_neg c_33, if_true, if_false]) H locs hP hD hS ls (lv_sub hl [6, 7, 5, 4, 3, 2, 1, 0] rfl)
              · by_cases c_8 : (grp / (10000 : Int32)) = 8
                · refine lv_tableIn (tgt := 237) (off := 183) hx hb dX2_succeeds_54 (by rw [c_8]; decide) (by rw [c_8]; decide) (by rw [c_8]; rfl) (by decide) ?_
                  refine lv_iload_n hx hb dX2_succeeds_237 rfl (lv_at hl 5 rfl) ?_
                  refine cl_i (va_runSN (As := [.int ((grp / (1000 : Int32)) - (grp / (1000 : Int32)) / (10 : Int32) * (10 : Int32))]) (rest := []) ⟨hx, hb, hml, hown, hts⟩ (c_X5_isDesk l D cy ((grp / (1000 : Int32)) - (grp / (1000 : Int32)) / (10 : Int32) * (10 : Int32)) H.size) ⟨va_cnB 1 hts gX2_succeeds_X5_isDesk_n36 rfl rfl rfl hE.2.2.2.2.2.2.2.2.2.2.1 (hts _ (List.mem_of_getElem? (i := 10) rfl)) (by decide +kernel) ⟨Nat.le_of_ble_eq_true rfl, Nat.le_of_ble_eq_true rfl⟩, (hts _ (List.mem_of_getElem? (i := 82) rfl)), trivial⟩ ⟨blU, preU hP hD (List.Perm.refl _) hK hE hS hA⟩ rfl rfl hl.1 rfl (lv_room (Nat.le_of_ble_eq_true rfl)) dX2_succeeds_238 ⟨Nat.le_of_ble_eq_true rfl, Nat.le_of_ble_eq_true rfl⟩) hP hD (List.Perm.refl _) hS hA (fun H locs hP hD hS => ?_)
                  have hP : va_P D vwCl (cS cy a v) H := hP
                  have hD : va_D A (cS cy a v) := hD
                  refine lv_if_eq (tgt := 274) hx hb dX2_succeeds_241 (by decide) (fun c_34 => ?_) (fun c_34 => ?_)
                  · refine lv_iconst (v := 0) hx hb dX2_succeeds_274 (by decide) ?_
                    have hr9 : (0 : Int32) = (r_X2_succeeds v grp) := by unfold r_X2_succeeds; simp only [if_neg c_1, if_neg c_2, if_neg c_3, if_neg c_4, if_neg c_5, if_neg c_6, if_neg c_7, if_pos c_8, if_pos c_34, if_true, if_false]
                    have hw9 : (w_X2_succeeds v grp) = v := by unfold w_X2_succeeds; simp only [if_neg c_1, if_neg c_2, if_neg c_3, if_neg c_4, if_neg c_5, if_neg c_6, if_neg c_7, if_pos c_8, if_pos c_34, if_true, if_false]
                    exact hret _ H locs _ ls hr9 (by rw [hw9]; exact hP) (by rw [hw9]; exact hD) hS dX2_succeeds_275
                  · refine lv_aload_n hx hb dX2_succeeds_244 rfl (lv_at hl 6 rfl) ?_
                    refine lv_iload hx hb dX2_succeeds_245 (lv_at hl 0 rfl) ?_
                    refine cl_i (va_runV (As := [.int (((10 : Int32) * ((grp / (100 : Int32)) - (grp / (100 : Int32)) / (10 : Int32) * (10 : Int32))) + ((grp / (10 : Int32)) - (grp / (10 : Int32)) / (10 : Int32) * (10 : Int32)))]) (rest := []) ⟨hx, hb, hml, hown, hts⟩ (c_X3_isNote l D cy a v (((10 : Int32) * ((grp / (100 : Int32)) - (grp / (100 : Int32)) / (10 : Int32) * (10 : Int32))) + ((grp / (10 : Int32)) - (grp / (10 : Int32)) / (10 : Int32) * (10 : Int32))) H.size) (cwV 1 hts gX2_succeeds_X3_isNote rfl rfl rfl (by decide +kernel) ⟨Nat.le_of_ble_eq_true rfl, Nat.le_of_ble_eq_true rfl⟩) ⟨blU, va_recv hK hP (ci := 2) (q0 := 0) rfl rfl, preU hP hD (pmI _) hK hE hS hA⟩ rfl rfl hl.1 rfl (lv_room (Nat.le_of_ble_eq_true rfl)) dX2_succeeds_247 ⟨Nat.le_of_ble_eq_true rfl, Nat.le_of_ble_eq_true rfl⟩) hP hD (pmI _) hS hA (fun H locs hP hD hS => ?_)
                    have hP : va_P D vwCl (cS cy a v) H := vP_perm hP (pmI _).symm
                    have hD : va_D A (cS cy a v) := vD_perm hD (pmI _).symm
                    refine lv_if_eq (tgt := 274) hx hb dX2_succeeds_250 (by decide) (fun c_35 => ?_) (fun c_35 => ?_)
                    · refine lv_iconst (v := 0) hx hb dX2_succeeds_274 (by decide) ?_
                      have hr9 : (0 : Int32) = (r_X2_succeeds v grp) := by unfold r_X2_succeeds; simp only [if_neg c_1, if_neg c_2, if_neg c_3, if_neg c_4, if_neg c_5, if_neg c_6, if_neg c_7, if_pos c_8, if_neg c_34, if_pos c_35, if_true, if_false]
                      have hw9 : (w_X2_succeeds v grp) = v := by unfold w_X2_succeeds; simp only [if_neg c_1, if_neg c_2, if_neg c_3, if_neg c_4, if_neg c_5, if_neg c_6, if_neg c_7, if_pos c_8, if_neg c_34, if_pos c_35, if_true, if_false]
                      exact hret _ H locs _ ls hr9 (by rw [hw9]; exact hP) (by rw [hw9]; exact hD) hS dX2_succeeds_275
                    · have hdd : ((grp / (1000 : Int32)) - (grp / (1000 : Int32)) / (10 : Int32) * (10 : Int32)) = 0 ∨ ((grp / (1000 : Int32)) - (grp / (1000 : Int32)) / (10 : Int32) * (10 : Int32)) = 1 := isDesk_of c_34
                      rcases hdd with hdd | hdd
                      · have hde0 : ((grp / (1000 : Int32)) - (grp / (1000 : Int32)) / (10 : Int32) * (10 : Int32)) = 0 := by rw [hdd]
                        refine lv_aload_n hx hb dX2_succeeds_253 rfl (lv_at hl 6 rfl) ?_
                        refine va_get (D := D) (ci := 2) (v := .ref ((a 0) 2)) (C := RX3) (T := TX3) (N := 11) hx hb hts inX2_succeeds_X3 hown hK hP 0 rfl rfl 1 (by decide) (hts _ (List.mem_of_getElem? (i := 2) rfl)) (fun _ h9 => h9) rfl dX2_succeeds_254 ?_
                        refine lv_iload_n hx hb dX2_succeeds_257 rfl (lv_at hl 5 rfl) ?_
                        refine x_aldq (v := .ref ((a 1) 0)) hx hb hK hP 2 2 rfl rfl (by rw [hdd]; exact vp_c (by decide)) (by rw [hdd]; rfl) dX2_succeeds_258 ?_
                        refine va_get (D := D) (ci := 0) (v := .ref ((a 1) 2)) (C := RX0) (T := TX0) (N := 8) hx hb hts inX2_succeeds_X0 hown hK hP 7 rfl rfl 1 (by decide) (hts _ (List.mem_of_getElem? (i := 3) rfl)) (fun _ h9 => h9) rfl dX2_succeeds_259 ?_
                        refine lv_iload hx hb dX2_succeeds_262 (lv_at hl 0 rfl) ?_
                        refine x_iald (f := (v.2.1 1)) (j := (((10 : Int32) * ((grp / (100 : Int32)) - (grp / (100 : Int32)) / (10 : Int32) * (10 : Int32))) + ((grp / (10 : Int32)) - (grp / (10 : Int32)) / (10 : Int32) * (10 : Int32))).toNatClampNeg) hx hb hK hP 9 0 rfl rfl rfl (isNote_of c_35 hsz2) dX2_succeeds_264 ?_
                        refine lv_iload hx hb dX2_succeeds_265 (lv_at hl 2 rfl) ?_
                        have J275_37 : ∀ (z_37 : Int32) (hz_37 : z_37 = (if ((v.2.1 1) (((10 : Int32) * ((grp / (100 : Int32)) - (grp / (100 : Int32)) / (10 : Int32) * (10 : Int32))) + ((grp / (10 : Int32)) - (grp / (10 : Int32)) / (10 : Int32) * (10 : Int32))).toNatClampNeg) < (grp - grp / (10 : Int32) * (10 : Int32)) then (0 : Int32) else (1 : Int32))) (H : Heap) (locs : List Loc), va_P D vwCl (cS cy a v) H → va_D A (cS cy a v) → va_S A s.heap H locs → ∀ ls : Array Slot, lv_has ls 8 [(0, .ref (a 0 0)), (1, .int grp), (2, .int ((grp / (1000 : Int32)) - (grp / (1000 : Int32)) / (10 : Int32) * (10 : Int32))), (3, .int ((grp / (100 : Int32)) - (grp / (100 : Int32)) / (10 : Int32) * (10 : Int32))), (4, .int ((grp / (10 : Int32)) - (grp / (10 : Int32)) / (10 : Int32) * (10 : Int32))), (5, .int (grp - grp / (10 : Int32) * (10 : Int32))), (6, .int (((10 : Int32) * ((grp / (1000 : Int32)) - (grp / (1000 : Int32)) / (10 : Int32) * (10 : Int32))) + ((grp / (100 : Int32)) - (grp / (100 : Int32)) / (10 : Int32) * (10 : Int32)))), (7, .int (((10 : Int32) * ((grp / (100 : Int32)) - (grp / (100 : Int32)) / (10 : Int32) * (10 : Int32))) + ((grp / (10 : Int32)) - (grp / (10 : Int32)) / (10 : Int32) * (10 : Int32))))] → W pp l e rX2_succeeds s m ([.ref (a 0 0), .int grp] : List Value).toArray below meth c H locs 0 0 Q (F0 m 275 ls [.int z_37]) := by
                          intro z_37 hz_37 H locs hP hD hS ls hl
                          subst hz_37
                          have hr9 : (if ((v.2.1 1) (((10 : Int32) * ((grp / (100 : Int32)) - (grp / (100 : Int32)) / (10 : Int32) * (10 : Int32))) + ((grp / (10 : Int32)) - (grp / (10 : Int32)) / (10 : Int32) * (10 : Int32))).toNatClampNeg) < (grp - grp / (10 : Int32) * (10 : Int32)) then (0 : Int32) else (1 : Int32)) = (r_X2_succeeds v grp) := by unfold r_X2_succeeds; simp only [if_neg c_1, if_neg c_2, if_neg c_3, if_neg c_4, if_neg c_5, if_neg c_6, if_neg c_7, if_pos c_8, if_neg c_34, if_neg c_35, if_pos hde0, if_true, if_false]
                          have hw9 : (w_X2_succeeds v grp) = v := by unfold w_X2_succeeds; simp only [if_neg c_1, if_neg c_2, if_neg c_3, if_neg c_4, if_neg c_5, if_neg c_6, if_neg c_7, if_pos c_8, if_neg c_34, if_neg c_35, if_pos hde0, if_true, if_false]
                          exact hret _ H locs _ ls hr9 (by rw [hw9]; exact hP) (by rw [hw9]; exact hD) hS dX2_succeeds_275
                        refine lv_icmp_lt (tgt := 274) hx hb dX2_succeeds_267 (by decide) (fun c_36 => ?_) (fun c_36 => ?_)
                        · refine lv_iconst (v := 0) hx hb dX2_succeeds_274 (by decide) ?_
                          exact J275_37 (0 : Int32) (by simp only [if_pos c_36, if_true, if_false]) H locs hP hD hS ls (lv_sub hl [6, 7, 5, 4, 3, 2, 1, 0] rfl)
                        · refine lv_iconst (v := 1) hx hb dX2_succeeds_270 (by decide) ?_
                          refine lv_goto (tgt := 275) hx hb dX2_succeeds_271 (by decide) ?_
                          exact J275_37 (1 : Int32) (by simp only [if_neg c_36, if_true, if_false]) H locs hP hD hS ls (lv_sub hl [6, 7, 5, 4, 3, 2, 1, 0] rfl)
                      · have hde1 : ¬ ((grp / (1000 : Int32)) - (grp / (1000 : Int32)) / (10 : Int32) * (10 : Int32)) = 0 := by rw [hdd]; decide
                        refine lv_aload_n hx hb dX2_succeeds_253 rfl (lv_at hl 6 rfl) ?_
                        refine va_get (D := D) (ci := 2) (v := .ref ((a 0) 2)) (C := RX3) (T := TX3) (N := 11) hx hb hts inX2_succeeds_X3 hown hK hP 0 rfl rfl 1 (by decide) (hts _ (List.mem_of_getElem? (i := 2) rfl)) (fun _ h9 => h9) rfl dX2_succeeds_254 ?_
                        refine lv_iload_n hx hb dX2_succeeds_257 rfl (lv_at hl 5 rfl) ?_
                        refine x_aldq (v := .ref ((a 2) 0)) hx hb hK hP 2 2 rfl rfl (by rw [hdd]; exact vp_c (by decide)) (by rw [hdd]; rfl) dX2_succeeds_258 ?_
                        refine va_get (D := D) (ci := 0) (v := .ref ((a 2) 2)) (C := RX0) (T := TX0) (N := 8) hx hb hts inX2_succeeds_X0 hown hK hP 14 rfl rfl 1 (by decide) (hts _ (List.mem_of_getElem? (i := 3) rfl)) (fun _ h9 => h9) rfl dX2_succeeds_259 ?_
                        refine lv_iload hx hb dX2_succeeds_262 (lv_at hl 0 rfl) ?_
                        refine x_iald (f := (v.2.2 1)) (j := (((10 : Int32) * ((grp / (100 : Int32)) - (grp / (100 : Int32)) / (10 : Int32) * (10 : Int32))) + ((grp / (10 : Int32)) - (grp / (10 : Int32)) / (10 : Int32) * (10 : Int32))).toNatClampNeg) hx hb hK hP 16 0 rfl rfl rfl (isNote_of c_35 hsz2) dX2_succeeds_264 ?_
                        refine lv_iload hx hb dX2_succeeds_265 (lv_at hl 2 rfl) ?_
                        have J275_40 : ∀ (z_40 : Int32) (hz_40 : z_40 = (if ((v.2.2 1) (((10 : Int32) * ((grp / (100 : Int32)) - (grp / (100 : Int32)) / (10 : Int32) * (10 : Int32))) + ((grp / (10 : Int32)) - (grp / (10 : Int32)) / (10 : Int32) * (10 : Int32))).toNatClampNeg) < (grp - grp / (10 : Int32) * (10 : Int32)) then (0 : Int32) else (1 : Int32))) (H : Heap) (locs : List Loc), va_P D vwCl (cS cy a v) H → va_D A (cS cy a v) → va_S A s.heap H locs → ∀ ls : Array Slot, lv_has ls 8 [(0, .ref (a 0 0)), (1, .int grp), (2, .int ((grp / (1000 : Int32)) - (grp / (1000 : Int32)) / (10 : Int32) * (10 : Int32))), (3, .int ((grp / (100 : Int32)) - (grp / (100 : Int32)) / (10 : Int32) * (10 : Int32))), (4, .int ((grp / (10 : Int32)) - (grp / (10 : Int32)) / (10 : Int32) * (10 : Int32))), (5, .int (grp - grp / (10 : Int32) * (10 : Int32))), (6, .int (((10 : Int32) * ((grp / (1000 : Int32)) - (grp / (1000 : Int32)) / (10 : Int32) * (10 : Int32))) + ((grp / (100 : Int32)) - (grp / (100 : Int32)) / (10 : Int32) * (10 : Int32)))), (7, .int (((10 : Int32) * ((grp / (100 : Int32)) - (grp / (100 : Int32)) / (10 : Int32) * (10 : Int32))) + ((grp / (10 : Int32)) - (grp / (10 : Int32)) / (10 : Int32) * (10 : Int32))))] → W pp l e rX2_succeeds s m ([.ref (a 0 0), .int grp] : List Value).toArray below meth c H locs 0 0 Q (F0 m 275 ls [.int z_40]) := by
                          intro z_40 hz_40 H locs hP hD hS ls hl
                          subst hz_40
                          have hr9 : (if ((v.2.2 1) (((10 : Int32) * ((grp / (100 : Int32)) - (grp / (100 : Int32)) / (10 : Int32) * (10 : Int32))) + ((grp / (10 : Int32)) - (grp / (10 : Int32)) / (10 : Int32) * (10 : Int32))).toNatClampNeg) < (grp - grp / (10 : Int32) * (10 : Int32)) then (0 : Int32) else (1 : Int32)) = (r_X2_succeeds v grp) := by unfold r_X2_succeeds; simp only [if_neg c_1, if_neg c_2, if_neg c_3, if_neg c_4, if_neg c_5, if_neg c_6, if_neg c_7, if_pos c_8, if_neg c_34, if_neg c_35, if_neg hde1, if_true, if_false]
                          have hw9 : (w_X2_succeeds v grp) = v := by unfold w_X2_succeeds; simp only [if_neg c_1, if_neg c_2, if_neg c_3, if_neg c_4, if_neg c_5, if_neg c_6, if_neg c_7, if_pos c_8, if_neg c_34, if_neg c_35, if_neg hde1, if_true, if_false]
                          exact hret _ H locs _ ls hr9 (by rw [hw9]; exact hP) (by rw [hw9]; exact hD) hS dX2_succeeds_275
                        refine lv_icmp_lt (tgt := 274) hx hb dX2_succeeds_267 (by decide) (fun c_39 => ?_) (fun c_39 => ?_)
                        · refine lv_iconst (v := 0) hx hb dX2_succeeds_274 (by decide) ?_
                          exact J275_40 (0 : Int32) (by simp only [if_pos c_39, if_true, if_false]) H locs hP hD hS ls (lv_sub hl [6, 7, 5, 4, 3, 2, 1, 0] rfl)
                        · refine lv_iconst (v := 1) hx hb dX2_succeeds_270 (by decide) ?_
                          refine lv_goto (tgt := 275) hx hb dX2_succeeds_271 (by decide) ?_
                          exact J275_40 (1 : Int32) (by simp only [if_neg c_39, if_true, if_false]) H locs hP hD hS ls (lv_sub hl [6, 7, 5, 4, 3, 2, 1, 0] rfl)
                · by_cases c_9 : (grp / (10000 : Int32)) = 9
                  · refine lv_tableIn (tgt := 276) (off := 222) hx hb dX2_succeeds_54 (by rw [c_9]; decide) (by rw [c_9]; decide) (by rw [c_9]; rfl) (by decide) ?_
                    refine lv_iload hx hb dX2_succeeds_276 (lv_at hl 1 rfl) ?_
                    have J297_43 : ∀ (z_43 : Int32) (hz_43 : z_43 = (if (((10 : Int32) * ((grp / (1000 : Int32)) - (grp / (1000 : Int32)) / (10 : Int32) * (10 : Int32))) + ((grp / (100 : Int32)) - (grp / (100 : Int32)) / (10 : Int32) * (10 : Int32))) = 0 then (if (v.1 7 0) < (grp - grp / (100 : Int32) * (100 : Int32)) then (0 : Int32) else (1 : Int32)) else (0 : Int32))) (H : Heap) (locs : List Loc), va_P D vwCl (cS cy a v) H → va_D A (cS cy a v) → va_S A s.heap H locs → ∀ ls : Array Slot, lv_has ls 8 [(0, .ref (a 0 0)), (1, .int grp), (2, .int ((grp / (1000 : Int32)) - (grp / (1000 : Int32)) / (10 : Int32) * (10 : Int32))), (3, .int ((grp / (100 : Int32)) - (grp / (100 : Int32)) / (10 : Int32) * (10 : Int32))), (4, .int ((grp / (10 : Int32)) - (grp / (10 : Int32)) / (10 : Int32) * (10 : Int32))), (5, .int (grp - grp / (10 : Int32) * (10 : Int32))), (6, .int (((10 : Int32) * ((grp / (1000 : Int32)) - (grp / (1000 : Int32)) / (10 : Int32) * (10 : Int32))) + ((grp / (100 : Int32)) - (grp / (100 : Int32)) / (10 : Int32) * (10 : Int32)))), (7, .int (((10 : Int32) * ((grp / (100 : Int32)) - (grp / (100 : Int32)) / (10 : Int32) * (10 : Int32))) + ((grp / (10 : Int32)) - (grp / (10 : Int32)) / (10 : Int32) * (10 : Int32))))] → W pp l e rX2_succeeds s m ([.ref (a 0 0), .int grp] : List Value).toArray below meth c H locs 0 0 Q (F0 m 297 ls [.int z_43]) := by
                      intro z_43 hz_43 H locs hP hD hS ls hl
                      subst hz_43
                      have hr9 : (if (((10 : Int32) * ((grp / (1000 : Int32)) - (grp / (1000 : Int32)) / (10 : Int32) * (10 : Int32))) + ((grp / (100 : Int32)) - (grp / (100 : Int32)) / (10 : Int32) * (10 : Int32))) = 0 then (if (v.1 7 0) < (grp - grp / (100 : Int32) * (100 : Int32)) then (0 : Int32) else (1 : Int32)) else (0 : Int32)) = (r_X2_succeeds v grp) := by unfold r_X2_succeeds; simp only [if_neg c_1, if_neg c_2, if_neg c_3, if_neg c_4, if_neg c_5, if_neg c_6, if_neg c_7, if_neg c_8, if_pos c_9, if_true, if_false]
                      have hw9 : (w_X2_succeeds v grp) = v := by unfold w_X2_succeeds; simp only [if_neg c_1, if_neg c_2, if_neg c_3, if_neg c_4, if_neg c_5, if_neg c_6, if_neg c_7, if_neg c_8, if_pos c_9, if_true, if_false]
                      exact hret _ H locs _ ls hr9 (by rw [hw9]; exact hP) (by rw [hw9]; exact hD) hS dX2_succeeds_297
                    refine lv_if_ne (tgt := 296) hx hb dX2_succeeds_278 (by decide) (fun c_42 => ?_) (fun c_42 => ?_)
                    · refine lv_iconst (v := 0) hx hb dX2_succeeds_296 (by decide) ?_
                      exact J297_43 (0 : Int32) (by simp only [if_neg c_42, if_true, if_false]) H locs hP hD hS ls (lv_sub hl [6, 7, 5, 4, 3, 2, 1, 0] rfl)
                    · refine lv_aload_n hx hb dX2_succeeds_281 rfl (lv_at hl 6 rfl) ?_
                      refine va_get (D := D) (ci := 2) (v := .int (v.1 7 0)) (C := RX3) (T := TX3) (N := 11) hx hb hts inX2_succeeds_X3 hown hK hP 0 rfl rfl 8 (by decide) (hts _ (List.mem_of_getElem? (i := 4) rfl)) (fun _ h9 => h9) rfl dX2_succeeds_282 ?_
                      refine lv_iload_n hx hb dX2_succeeds_285 rfl (lv_at hl 7 rfl) ?_
                      refine lv_bipush (v := 100) hx hb dX2_succeeds_286 (by decide) ?_
                      refine lv_irem hx hb dX2_succeeds_288 (by decide) ?_
                      refine lv_icmp_lt (tgt := 296) hx hb dX2_succeeds_289 (by decide) (fun c_45 => ?_) (fun c_45 => ?_)
                      · refine lv_iconst (v := 0) hx hb dX2_succeeds_296 (by decide) ?_
                        exact J297_43 (0 : Int32) (by simp only [if_pos c_42, if_pos c_45, if_true, if_false]) H locs hP hD hS ls (lv_sub hl [6, 7, 5, 4, 3, 2, 1, 0] rfl)
                      · refine lv_iconst (v := 1) hx hb dX2_succeeds_292 (by decide) ?_
                        refine lv_goto (tgt := 297) hx hb dX2_succeeds_293 (by decide) ?_
                        exact J297_43 (1 : Int32) (by simp only [if_pos c_42, if_neg c_45, if_true, if_false]) H locs hP hD hS ls (lv_sub hl [6, 7, 5, 4, 3, 2, 1, 0] rfl)
                  · have hso : (grp / (10000 : Int32)).toInt < 1 ∨ 9 < (grp / (10000 : Int32)).toInt := sw1_out9 (grp / (10000 : Int32)) c_1 c_2 c_3 c_4 c_5 c_6 c_7 c_8 c_9
                    refine lv_tableOut (tgt := 298) hx hb dX2_succeeds_54 hso (by decide) ?_
                    refine lv_iconst (v := 0) hx hb dX2_succeeds_298 (by decide) ?_
                    have hr9 : (0 : Int32) = (r_X2_succeeds v grp) := by unfold r_X2_succeeds; simp only [if_neg c_1, if_neg c_2, if_neg c_3, if_neg c_4, if_neg c_5, if_neg c_6, if_neg c_7, if_neg c_8, if_neg c_9, if_true, if_false]
                    have hw9 : (w_X2_succeeds v grp) = v := by unfold w_X2_succeeds; simp only [if_neg c_1, if_neg c_2, if_neg c_3, if_neg c_4, if_neg c_5, if_neg c_6, if_neg c_7, if_neg c_8, if_neg c_9, if_true, if_false]
                    exact hret _ H locs _ ls hr9 (by rw [hw9]; exact hP) (by rw [hw9]; exact hD) hS dX2_succeeds_299

theorem bA_set (v : SV) : (w_X3_beginAnew v).1 0 = v.1 0 := rfl

