/-! ===== the law: call ===== -/
def r_L_call (V : BV) (what : Int32) (a3 : Int32) (b3 : Int32) (c3 : Int32) : Int32 := (if what = 0 then (r_L_tryAppend V a3) else (if what = 1 then (r_L_tryAbout V a3) else (if what = 2 then (r_L_tryDesk V a3 b3) else (if what = 3 then (r_L_tryNote V a3 b3 c3) else (if what = 4 then (r_L_tryPlace V a3 b3) else (if what = 5 then (r_L_tryPath V a3 b3) else (if what = 6 then (r_L_tryNumber V a3 b3) else (if what = 7 then (r_L_tryShare V a3) else (if what = 8 then (r_L_tryTune V a3 b3 c3) else (if what = 9 then (r_L_trySet V a3 b3) else (if what = 10 then (r_L_tryGrow V a3 b3 c3) else (if what = 11 then (r_L_tryPlay V) else (if what = 12 then (r_L_tryUndo V) else (if what = 13 then (r_L_tryMixing V a3) else (if what = 14 then (r_L_tryLength V a3) else (if what = 15 then (r_L_trySharing V a3 b3) else (if what = 16 then (r_L_tryHolds V a3) else (if what = 17 then (r_L_tryKeep V a3) else (r_L_tryBack V a3)))))))))))))))))))
def w_L_call (V : BV) (what : Int32) (a3 : Int32) (b3 : Int32) (c3 : Int32) : BV := (if what = 0 then (w_X5_append V a3) else (if what = 1 then V else (if what = 2 then V else (if what = 3 then V else (if what = 4 then V else (if what = 5 then V else (if what = 6 then V else (if what = 7 then V else (if what = 8 then (w_X5_setDesk V a3 b3 c3) else (if what = 9 then (w_X5_set V a3 b3) else (if what = 10 then (w_X5_strengthen V a3 b3 c3) else (if what = 11 then (w_X5_play V) else (if what = 12 then (w_X5_undo V) else (if what = 13 then (w_X5_bestMixing V a3) else (if what = 14 then (w_X5_bestLength V a3) else (if what = 15 then V else (if what = 16 then (w_X5_holds V a3) else (if what = 17 then (w_X5_save V a3) else (w_X5_restore V a3)))))))))))))))))))
abbrev rL_call : Room := { frames := 9, cells := 3, slots := 18, locals := 185 }
set_option maxHeartbeats 4000000 in
set_option maxRecDepth 100000 in
theorem c_L_call (l : Launch) (hlt : l.stackTraces = false) (D : va_G) (cy : Nat → ClassId) (ad : AD) (V : BV) (what : Int32) (a3 : Int32) (b3 : Int32) (c3 : Int32) (sz : Nat) (hho : hok V.2.2.2.2.2.1) (hsz2 : szok (V.2.1.1 0 0)) (hlen : ∃ n, n ≤ 80 ∧ V.1 3 0 = nI n) (hg : ∃ g, g < 26 ∧ V.1 6 0 = nI g) (hsh : what = 15 → ¬ o_X5_checkPlace b3 = 0) : CI l yL_call wsL_call rL_call D cy [.ref (ad 0 0 0), .int what, .int a3, .int b3, .int c3] (wB cy ad V) sz (r_L_call V what a3 b3 c3) (wB cy ad (w_L_call V what a3 b3 c3)) 3 18 := by
  refine st_i (ty := .int) (cc := cL_call) (maxL := 5) (by decide) rfl rfl (Nat.le_of_ble_eq_true rfl) ?_
  intro pp e s m below meth c A Q ls hx hb hts hown hml hlocks hsz hP hK hD hE hA hl hret
  subst hsz
  have hown : s.vm.findClass RL = some m.cls := hown
  have hl : lv_has ls 5 [(0, .ref (ad 0 0 0)), (1, .int what), (2, .int a3), (3, .int b3), (4, .int c3)] := hl
  obtain ⟨H, hH⟩ : ∃ H, H = s.heap := ⟨_, rfl⟩
  rw [← hH] at hP ⊢
  have hS : va_S A s.heap H [] := by rw [hH]; exact va_S.rf
  obtain ⟨locs, hlo⟩ : ∃ locs : List Loc, locs = [] := ⟨_, rfl⟩
  rw [← hlo] at hS ⊢
  refine lv_iload_n hx hb dL_call_0 rfl (lv_at hl 1 rfl) ?_
  by_cases c_1 : what = 0
  · refine lv_tableIn (tgt := 88) (off := 87) hx hb dL_call_1 (by rw [c_1]; decide) (by rw [c_1]; decide) (by rw [c_1]; rfl) (by decide) ?_
    refine lv_aload_n hx hb dL_call_88 rfl (lv_at hl 0 rfl) ?_
    refine lv_iload_n hx hb dL_call_89 rfl (lv_at hl 2 rfl) ?_
    refine cl_i (vx_runSW (As := [.ref (ad 0 0 0), .int a3]) (rest := []) ⟨hx, hb, hml, hown, hts⟩ (c_L_tryAppend l hlt D cy ad V a3 H.size hlen) (vx_cwSW 2 hts gL_call_L_tryAppend rfl rfl rfl (by decide +kernel) ⟨Nat.le_of_ble_eq_true rfl, Nat.le_of_ble_eq_true rfl⟩) ⟨blU, preU hP hD (pmI _) hK hE hS hA⟩ rfl rfl hl.1 rfl (lv_room (Nat.le_of_ble_eq_true rfl)) dL_call_90 ⟨Nat.le_of_ble_eq_true rfl, Nat.le_of_ble_eq_true rfl⟩) hP hD (pmI _) hS hA (fun H locs hP hD hS => ?_)
    have hP : va_P D vwCl (wB cy ad (w_X5_append V a3)) H := vP_perm hP (pmI _).symm
    have hD : va_D A (wB cy ad (w_X5_append V a3)) := vD_perm hD (pmI _).symm
    refine W.widen (k := 3) (n := 18) (Nat.le_of_ble_eq_true rfl) (Nat.le_of_ble_eq_true rfl) ?_
    have hr9 : (r_L_tryAppend V a3) = (r_L_call V what a3 b3 c3) := by unfold r_L_call; simp only [if_pos c_1, if_true, if_false]
    have hw9 : (w_L_call V what a3 b3 c3) = (w_X5_append V a3) := by unfold w_L_call; simp only [if_pos c_1, if_true, if_false]
    exact hret _ H locs _ ls hr9 (by rw [hw9]; exact hP) (by rw [hw9]; exact hD) hS dL_call_93
  · by_cases c_2 : what = 1
    · refine lv_tableIn (tgt := 94) (off := 93) hx hb dL_call_1 (by rw [c_2]; decide) (by rw [c_2]; decide) (by rw [c_2]; rfl) (by decide) ?_
      refine lv_aload_n hx hb dL_call_94 rfl (lv_at hl 0 rfl) ?_
      refine lv_iload_n hx hb dL_call_95 rfl (lv_at hl 2 rfl) ?_
      refine cl_i (vx_runSW (As := [.ref (ad 0 0 0), .int a3]) (rest := []) ⟨hx, hb, hml, hown, hts⟩ (c_L_tryAbout l hlt D cy ad V a3 H.size) (vx_cwSW 2 hts gL_call_L_tryAbout rfl rfl rfl (by decide +kernel) ⟨Nat.le_of_ble_eq_true rfl, Nat.le_of_ble_eq_true rfl⟩) ⟨blU, preU hP hD (pmI _) hK hE hS hA⟩ rfl rfl hl.1 rfl (lv_room (Nat.le_of_ble_eq_true rfl)) dL_call_96 ⟨Nat.le_of_ble_eq_true rfl, Nat.le_of_ble_eq_true rfl⟩) hP hD (pmI _) hS hA (fun H locs hP hD hS => ?_)
      have hP : va_P D vwCl (wB cy ad V) H := vP_perm hP (pmI _).symm
      have hD : va_D A (wB cy ad V) := vD_perm hD (pmI _).symm
      refine W.widen (k := 3) (n := 18) (Nat.le_of_ble_eq_true rfl) (Nat.le_of_ble_eq_true rfl) ?_
      have hr9 : (r_L_tryAbout V a3) = (r_L_call V what a3 b3 c3) := by unfold r_L_call; simp only [if_neg c_1, if_pos c_2, if_true, if_false]
      have hw9 : (w_L_call V what a3 b3 c3) = V := by unfold w_L_call; simp only [if_neg c_1, if_pos c_2, if_true, if_false]
      exact hret _ H locs _ ls hr9 (by rw [hw9]; exact hP) (by rw [hw9]; exact hD) hS dL_call_99
    · by_cases c_3 : what = 2
      · refine lv_tableIn (tgt := 100) (off := 99) hx hb dL_call_1 (by rw [c_3]; decide) (by rw [c_3]; decide) (by rw [c_3]; rfl) (by decide) ?_
        refine lv_aload_n hx hb dL_call_100 rfl (lv_at hl 0 rfl) ?_
        refine lv_iload_n hx hb dL_call_101 rfl (lv_at hl 2 rfl) ?_
        refine lv_iload_n hx hb dL_call_102 rfl (lv_at hl 3 rfl) ?_
        refine cl_i (vx_runSW (As := [.ref (ad 0 0 0), .int a3, .int b3]) (rest := []) ⟨hx, hb, hml, hown, hts⟩ (c_L_tryDesk l hlt D cy ad V a3 b3 H.size) (vx_cwSW 3 hts gL_call_L_tryDesk rfl rfl rfl (by decide +kernel) ⟨Nat.le_of_ble_eq_true rfl, Nat.le_of_ble_eq_true rfl⟩) ⟨blU, preU hP hD (pmI _) hK hE hS hA⟩ rfl rfl hl.1 rfl (lv_room (Nat.le_of_ble_eq_true rfl)) dL_call_103 ⟨Nat.le_of_ble_eq_true rfl, Nat.le_of_ble_eq_true rfl⟩) hP hD (pmI _) hS hA (fun H locs hP hD hS => ?_)
        have hP : va_P D vwCl (wB cy ad V) H := vP_perm hP (pmI _).symm
        have hD : va_D A (wB cy ad V) := vD_perm hD (pmI _).symm
        refine W.widen (k := 3) (n := 18) (Nat.le_of_ble_eq_true rfl) (Nat.le_of_ble_eq_true rfl) ?_
        have hr9 : (r_L_tryDesk V a3 b3) = (r_L_call V what a3 b3 c3) := by unfold r_L_call; simp only [if_neg c_1, if_neg c_2, if_pos c_3, if_true, if_false]
        have hw9 : (w_L_call V what a3 b3 c3) = V := by unfold w_L_call; simp only [if_neg c_1, if_neg c_2, if_pos c_3, if_true, if_false]
        exact hret _ H locs _ ls hr9 (by rw [hw9]; exact hP) (by rw [hw9]; exact hD) hS dL_call_106
      · by_cases c_4 : what = 3
        · refine lv_tableIn (tgt := 107) (off := 106) hx hb dL_call_1 (by rw [c_4]; decide) (by rw [c_4]; decide) (by rw [c_4]; rfl) (by decide) ?_
          refine lv_aload_n hx hb dL_call_107 rfl (lv_at hl 0 rfl) ?_
          refine lv_iload_n hx hb dL_call_108 rfl (lv_at hl 2 rfl) ?_
          refine lv_iload_n hx hb dL_call_109 rfl (lv_at hl 3 rfl) ?_
          refine lv_iload hx hb dL_call_110 (lv_at hl 4 rfl) ?_
          refine cl_i (vx_runSW (As := [.ref (ad 0 0 0), .int a3, .int b3, .int c3]) (rest := []) ⟨hx, hb, hml, hown, hts⟩ (c_L_tryNote l hlt D cy ad V a3 b3 c3 H.size hsz2) (vx_cwSW 4 hts gL_call_L_tryNote rfl rfl rfl (by decide +kernel) ⟨Nat.le_of_ble_eq_true rfl, Nat.le_of_ble_eq_true rfl⟩) ⟨blU, preU hP hD (pmI _) hK hE hS hA⟩ rfl rfl hl.1 rfl (lv_room (Nat.le_of_ble_eq_true rfl)) dL_call_112 ⟨Nat.le_of_ble_eq_true rfl, Nat.le_of_ble_eq_true rfl⟩) hP hD (pmI _) hS hA (fun H locs hP hD hS => ?_)
          have hP : va_P D vwCl (wB cy ad V) H := vP_perm hP (pmI _).symm
          have hD : va_D A (wB cy ad V) := vD_perm hD (pmI _).symm
          have hr9 : (r_L_tryNote V a3 b3 c3) = (r_L_call V what a3 b3 c3) := by unfold r_L_call; simp only [if_neg c_1, if_neg c_2, if_neg c_3, if_pos c_4, if_true, if_false]
          have hw9 : (w_L_call V what a3 b3 c3) = V := by unfold w_L_call; simp only [if_neg c_1, if_neg c_2, if_neg c_3, if_pos c_4, if_true, if_false]
          exact hret _ H locs _ ls hr9 (by rw [hw9]; exact hP) (by rw [hw9]; exact hD) hS dL_call_115
        · by_cases c_5 : what = 4
          · refine lv_tableIn (tgt := 116) (off := 115) hx hb dL_call_1 (by rw [c_5]; decide) (by rw [c_5]; decide) (by rw [c_5]; rfl) (by decide) ?_
            refine lv_aload_n hx hb dL_call_116 rfl (lv_at hl 0 rfl) ?_
            refine lv_iload_n hx hb dL_call_117 rfl (lv_at hl 2 rfl) ?_
            refine lv_iload_n hx hb dL_call_118 rfl (lv_at hl 3 rfl) ?_
            refine cl_i (vx_runSW (As := [.ref (ad 0 0 0), .int a3, .int b3]) (rest := []) ⟨hx, hb, hml, hown, hts⟩ (c_L_tryPlace l hlt D cy ad V a3 b3 H.size hsz2) (vx_cwSW 3 hts gL_call_L_tryPlace rfl rfl rfl (by decide +kernel) ⟨Nat.le_of_ble_eq_true rfl, Nat.le_of_ble_eq_true rfl⟩) ⟨blU, preU hP hD (pmI _) hK hE hS hA⟩ rfl rfl hl.1 rfl (lv_room (Nat.le_of_ble_eq_true rfl)) dL_call_119 ⟨Nat.le_of_ble_eq_true rfl, Nat.le_of_ble_eq_true rfl⟩) hP hD (pmI _) hS hA (fun H locs hP hD hS => ?_)
            have hP : va_P D vwCl (wB cy ad V) H := vP_perm hP (pmI _).symm
            have hD : va_D A (wB cy ad V) := vD_perm hD (pmI _).symm
            refine W.widen (k := 3) (n := 18) (Nat.le_of_ble_eq_true rfl) (Nat.le_of_ble_eq_true rfl) ?_
            have hr9 : (r_L_tryPlace V a3 b3) = (r_L_call V what a3 b3 c3) := by unfold r_L_call; simp only [if_neg c_1, if_neg c_2, if_neg c_3, if_neg c_4, if_pos c_5, if_true, if_false]
            have hw9 : (w_L_call V what a3 b3 c3) = V := by unfold w_L_call; simp only [if_neg c_1, if_neg c_2, if_neg c_3, if_neg c_4, if_pos c_5, if_true, if_false]
            exact hret _ H locs _ ls hr9 (by rw [hw9]; exact hP) (by rw [hw9]; exact hD) hS dL_call_122
          · by_cases c_6 : what = 5
            · refine lv_tableIn (tgt := 123) (off := 122) hx hb dL_call_1 (by rw [c_6]; decide) (by rw [c_6]; decide) (by rw [c_6]; rfl) (by decide) ?_
              refine lv_aload_n hx hb dL_call_123 rfl (lv_at hl 0 rfl) ?_
              refine lv_iload_n hx hb dL_call_124 rfl (lv_at hl 2 rfl) ?_
              refine lv_iload_n hx hb dL_call_125 rfl (lv_at hl 3 rfl) ?_
              refine cl_i (vx_runSW (As := [.ref (ad 0 0 0), .int a3, .int b3]) (rest := []) ⟨hx, hb, hml, hown, hts⟩ (c_L_tryPath l hlt D cy ad V a3 b3 H.size) (vx_cwSW 3 hts gL_call_L_tryPath rfl rfl rfl (by decide +kernel) ⟨Nat.le_of_ble_eq_true rfl, Nat.le_of_ble_eq_true rfl⟩) ⟨blU, preU hP hD (pmI _) hK hE hS hA⟩ rfl rfl hl.1 rfl (lv_room (Nat.le_of_ble_eq_true rfl)) dL_call_126 ⟨Nat.le_of_ble_eq_true rfl, Nat.le_of_ble_eq_true rfl⟩) hP hD (pmI _) hS hA (fun H locs hP hD hS => ?_)
              have hP : va_P D vwCl (wB cy ad V) H := vP_perm hP (pmI _).symm
              have hD : va_D A (wB cy ad V) := vD_perm hD (pmI _).symm
              refine W.widen (k := 3) (n := 18) (Nat.le_of_ble_eq_true rfl) (Nat.le_of_ble_eq_true rfl) ?_
              have hr9 : (r_L_tryPath V a3 b3) = (r_L_call V what a3 b3 c3) := by unfold r_L_call; simp only [if_neg c_1, if_neg c_2, if_neg c_3, if_neg c_4, if_neg c_5, if_pos c_6, if_true, if_false]
              have hw9 : (w_L_call V what a3 b3 c3) = V := by unfold w_L_call; simp only [if_neg c_1, if_neg c_2, if_neg c_3, if_neg c_4, if_neg c_5, if_pos c_6, if_true, if_false]
              exact hret _ H locs _ ls hr9 (by rw [hw9]; exact hP) (by rw [hw9]; exact hD) hS dL_call_129
            · by_cases c_7 : what = 6
              · refine lv_tableIn (tgt := 130) (off := 129) hx hb dL_call_1 (by rw [c_7]; decide) (by rw [c_7]; decide) (by rw [c_7]; rfl) (by decide) ?_
                refine lv_aload_n hx hb dL_call_130 rfl (lv_at hl 0 rfl) ?_
                refine lv_iload_n hx hb dL_call_131 rfl (lv_at hl 2 rfl) ?_
                refine lv_iload_n hx hb dL_call_132 rfl (lv_at hl 3 rfl) ?_
                refine cl_i (vx_runSW (As := [.ref (ad 0 0 0), .int a3, .int b3]) (rest := []) ⟨hx, hb, hml, hown, hts⟩ (c_L_tryNumber l hlt D cy ad V a3 b3 H.size) (vx_cwSW 3 hts gL_call_L_tryNumber rfl rfl rfl (by decide +kernel) ⟨Nat.le_of_ble_eq_true rfl, Nat.le_of_ble_eq_true rfl⟩) ⟨blU, preU hP hD (pmI _) hK hE hS hA⟩ rfl rfl hl.1 rfl (lv_room (Nat.le_of_ble_eq_true rfl)) dL_call_133 ⟨Nat.le_of_ble_eq_true rfl, Nat.le_of_ble_eq_true rfl⟩) hP hD (pmI _) hS hA (fun H locs hP hD hS => ?_)
                have hP : va_P D vwCl (wB cy ad V) H := vP_perm hP (pmI _).symm
                have hD : va_D A (wB cy ad V) := vD_perm hD (pmI _).symm
                refine W.widen (k := 3) (n := 18) (Nat.le_of_ble_eq_true rfl) (Nat.le_of_ble_eq_true rfl) ?_
                have hr9 : (r_L_tryNumber V a3 b3) = (r_L_call V what a3 b3 c3) := by unfold r_L_call; simp only [if_neg c_1, if_neg c_2, if_neg c_3, if_neg c_4, if_neg c_5, if_neg c_6, if_pos c_7, if_true, if_false]
                have hw9 : (w_L_call V what a3 b3 c3) = V := by unfold w_L_call; simp only [if_neg c_1, if_neg c_2, if_neg c_3, if_neg c_4, if_neg c_5, if_neg c_6, if_pos c_7, if_true, if_false]
                exact hret _ H locs _ ls hr9 (by rw [hw9]; exact hP) (by rw [hw9]; exact hD) hS dL_call_136
              · by_cases c_8 : what = 7
                · refine lv_tableIn (tgt := 137) (off := 136) hx hb dL_call_1 (by rw [c_8]; decide) (by rw [c_8]; decide) (by rw [c_8]; rfl) (by decide) ?_
                  refine lv_aload_n hx hb dL_call_137 rfl (lv_at hl 0 rfl) ?_
                  refine lv_iload_n hx hb dL_call_138 rfl (lv_at hl 2 rfl) ?_
                  refine cl_i (vx_runSW (As := [.ref (ad 0 0 0), .int a3]) (rest := []) ⟨hx, hb, hml, hown, hts⟩ (c_L_tryShare l hlt D cy ad V a3 H.size) (vx_cwSW 2 hts gL_call_L_tryShare rfl rfl rfl (by decide +kernel) ⟨Nat.le_of_ble_eq_true rfl, Nat.le_of_ble_eq_true rfl⟩) ⟨blU, preU hP hD (pmI _) hK hE hS hA⟩ rfl rfl hl.1 rfl (lv_room (Nat.le_of_ble_eq_true rfl)) dL_call_139 ⟨Nat.le_of_ble_eq_true rfl, Nat.le_of_ble_eq_true rfl⟩) hP hD (pmI _) hS hA (fun H locs hP hD hS => ?_)
                  have hP : va_P D vwCl (wB cy ad V) H := vP_perm hP (pmI _).symm
                  have hD : va_D A (wB cy ad V) := vD_perm hD (pmI _).symm
                  refine W.widen (k := 3) (n := 18) (Nat.le_of_ble_eq_true rfl) (Nat.le_of_ble_eq_true rfl) ?_
                  have hr9 : (r_L_tryShare V a3) = (r_L_call V what a3 b3 c3) := by unfold r_L_call; simp only [if_neg c_1, if_neg c_2, if_neg c_3, if_neg c_4, if_neg c_5, if_neg c_6, if_neg c_7, if_pos c_8, if_true, if_false]
                  have hw9 : (w_L_call V what a3 b3 c3) = V := by unfold w_L_call; simp only [if_neg c_1, if_neg c_2, if_neg c_3, if_neg c_4, if_neg c_5, if_neg c_6, if_neg c_7, if_pos c_8, if_true, if_false]
                  exact hret _ H locs _ ls hr9 (by rw [hw9]; exact hP) (by rw [hw9]; exact hD) hS dL_call_142
                · by_cases c_9 : what = 8
                  · refine lv_tableIn (tgt := 143) (off := 142) hx hb dL_call_1 (by rw [c_9]; decide) (by rw [c_9]; decide) (by rw [c_9]; rfl) (by decide) ?_
                    refine lv_aload_n hx hb dL_call_143 rfl (lv_at hl 0 rfl) ?_
                    refine lv_iload_n hx hb dL_call_144 rfl (lv_at hl 2 rfl) ?_
                    refine lv_iload_n hx hb dL_call_145 rfl (lv_at hl 3 rfl) ?_
                    refine lv_iload hx hb dL_call_146 (lv_at hl 4 rfl) ?_
                    refine cl_i (vx_runSW (As := [.ref (ad 0 0 0), .int a3, .int b3, .int c3]) (rest := []) ⟨hx, hb, hml, hown, hts⟩ (c_L_tryTune l hlt D cy ad V a3 b3 c3 H.size hho) (vx_cwSW 4 hts gL_call_L_tryTune rfl rfl rfl (by decide +kernel) ⟨Nat.le_of_ble_eq_true rfl, Nat.le_of_ble_eq_true rfl⟩) ⟨blU, preU hP hD (pmI _) hK hE hS hA⟩ rfl rfl hl.1 rfl (lv_room (Nat.le_of_ble_eq_true rfl)) dL_call_148 ⟨Nat.le_of_ble_eq_true rfl, Nat.le_of_ble_eq_true rfl⟩) hP hD (pmI _) hS hA (fun H locs hP hD hS => ?_)
                    have hP : va_P D vwCl (wB cy ad (w_X5_setDesk V a3 b3 c3)) H := vP_perm hP (pmI _).symm
                    have hD : va_D A (wB cy ad (w_X5_setDesk V a3 b3 c3)) := vD_perm hD (pmI _).symm
                    refine W.widen (k := 3) (n := 18) (Nat.le_of_ble_eq_true rfl) (Nat.le_of_ble_eq_true rfl) ?_
                    have hr9 : (r_L_tryTune V a3 b3 c3) = (r_L_call V what a3 b3 c3) := by unfold r_L_call; simp only [if_neg c_1, if_neg c_2, if_neg c_3, if_neg c_4, if_neg c_5, if_neg c_6, if_neg c_7, if_neg c_8, if_pos c_9, if_true, if_false]
                    have hw9 : (w_L_call V what a3 b3 c3) = (w_X5_setDesk V a3 b3 c3) := by unfold w_L_call; simp only [if_neg c_1, if_neg c_2, if_neg c_3, if_neg c_4, if_neg c_5, if_neg c_6, if_neg c_7, if_neg c_8, if_pos c_9, if_true, if_false]
                    exact hret _ H locs _ ls hr9 (by rw [hw9]; exact hP) (by rw [hw9]; exact hD) hS dL_call_151
                  · by_cases c_10 : what = 9
                    · refine lv_tableIn (tgt := 152) (off := 151) hx hb dL_call_1 (by rw [c_10]; decide) (by rw [c_10]; decide) (by rw [c_10]; rfl) (by decide) ?_
                      refine lv_aload_n hx hb dL_call_152 rfl (lv_at hl 0 rfl) ?_
                      refine lv_iload_n hx hb dL_call_153 rfl (lv_at hl 2 rfl) ?_
                      refine lv_iload_n hx hb dL_call_154 rfl (lv_at hl 3 rfl) ?_
                      refine cl_i (vx_runSW (As := [.ref (ad 0 0 0), .int a3, .int b3]) (rest := []) ⟨hx, hb, hml, hown, hts⟩ (c_L_trySet l hlt D cy ad V a3 b3 H.size hho) (vx_cwSW 3 hts gL_call_L_trySet rfl rfl rfl (by decide +kernel) ⟨Nat.le_of_ble_eq_true rfl, Nat.le_of_ble_eq_true rfl⟩) ⟨blU, preU hP hD (pmI _) hK hE hS hA⟩ rfl rfl hl.1 rfl (lv_room (Nat.le_of_ble_eq_true rfl)) dL_call_155 ⟨Nat.le_of_ble_eq_true rfl, Nat.le_of_ble_eq_true rfl⟩) hP hD (pmI _) hS hA (fun H locs hP hD hS => ?_)
                      have hP : va_P D vwCl (wB cy ad (w_X5_set V a3 b3)) H := vP_perm hP (pmI _).symm
                      have hD : va_D A (wB cy ad (w_X5_set V a3 b3)) := vD_perm hD (pmI _).symm
                      refine W.widen (k := 3) (n := 18) (Nat.le_of_ble_eq_true rfl) (Nat.le_of_ble_eq_true rfl) ?_
                      have hr9 : (r_L_trySet V a3 b3) = (r_L_call V what a3 b3 c3) := by unfold r_L_call; simp only [if_neg c_1, if_neg c_2, if_neg c_3, if_neg c_4, if_neg c_5, if_neg c_6, if_neg c_7, if_neg c_8, if_neg c_9, if_pos c_10, if_true, if_false]
                      have hw9 : (w_L_call V what a3 b3 c3) = (w_X5_set V a3 b3) := by unfold w_L_call; simp only [if_neg c_1, if_neg c_2, if_neg c_3, if_neg c_4, if_neg c_5, if_neg c_6, if_neg c_7, if_neg c_8, if_neg c_9, if_pos c_10, if_true, if_false]
                      exact hret _ H locs _ ls hr9 (by rw [hw9]; exact hP) (by rw [hw9]; exact hD) hS dL_call_158
                    · by_cases c_11 : what = 10
                      · refine lv_tableIn (tgt := 159) (off := 158) hx hb dL_call_1 (by rw [c_11]; decide) (by rw [c_11]; decide) (by rw [c_11]; rfl) (by decide) ?_
                        refine lv_aload_n hx hb dL_call_159 rfl (lv_at hl 0 rfl) ?_
                        refine lv_iload_n hx hb dL_call_160 rfl (lv_at hl 2 rfl) ?_
                        refine lv_iload_n hx hb dL_call_161 rfl (lv_at hl 3 rfl) ?_
                        refine lv_iload hx hb dL_call_162 (lv_at hl 4 rfl) ?_
                        refine cl_i (vx_runSW (As := [.ref (ad 0 0 0), .int a3, .int b3, .int c3]) (rest := []) ⟨hx, hb, hml, hown, hts⟩ (c_L_tryGrow l hlt D cy ad V a3 b3 c3 H.size hho hsz2) (vx_cwSW 4 hts gL_call_L_tryGrow rfl rfl rfl (by decide +kernel) ⟨Nat.le_of_ble_eq_true rfl, Nat.le_of_ble_eq_true rfl⟩) ⟨blU, preU hP hD (pmI _) hK hE hS hA⟩ rfl rfl hl.1 rfl (lv_room (Nat.le_of_ble_eq_true rfl)) dL_call_164 ⟨Nat.le_of_ble_eq_true rfl, Nat.le_of_ble_eq_true rfl⟩) hP hD (pmI _) hS hA (fun H locs hP hD hS => ?_)
                        have hP : va_P D vwCl (wB cy ad (w_X5_strengthen V a3 b3 c3)) H := vP_perm hP (pmI _).symm
                        have hD : va_D A (wB cy ad (w_X5_strengthen V a3 b3 c3)) := vD_perm hD (pmI _).symm
                        have hr9 : (r_L_tryGrow V a3 b3 c3) = (r_L_call V what a3 b3 c3) := by unfold r_L_call; simp only [if_neg c_1, if_neg c_2, if_neg c_3, if_neg c_4, if_neg c_5, if_neg c_6, if_neg c_7, if_neg c_8, if_neg c_9, if_neg c_10, if_pos c_11, if_true, if_false]
                        have hw9 : (w_L_call V what a3 b3 c3) = (w_X5_strengthen V a3 b3 c3) := by unfold w_L_call; simp only [if_neg c_1, if_neg c_2, if_neg c_3, if_neg c_4, if_neg c_5, if_neg c_6, if_neg c_7, if_neg c_8, if_neg c_9, if_neg c_10, if_pos c_11, if_true, if_false]
                        exact hret _ H locs _ ls hr9 (by rw [hw9]; exact hP) (by rw [hw9]; exact hD) hS dL_call_167
                      · by_cases c_12 : what = 11
                        · refine lv_tableIn (tgt := 168) (off := 167) hx hb dL_call_1 (by rw [c_12]; decide) (by rw [c_12]; decide) (by rw [c_12]; rfl) (by decide) ?_
                          refine lv_aload_n hx hb dL_call_168 rfl (lv_at hl 0 rfl) ?_
                          refine cl_i (vx_runSW (As := [.ref (ad 0 0 0)]) (rest := []) ⟨hx, hb, hml, hown, hts⟩ (c_L_tryPlay l hlt D cy ad V H.size hho hsz2 hlen hg) (vx_cwSW 1 hts gL_call_L_tryPlay rfl rfl rfl (by decide +kernel) ⟨Nat.le_of_ble_eq_true rfl, Nat.le_of_ble_eq_true rfl⟩) ⟨blU, preU hP hD (pmI _) hK hE hS hA⟩ rfl rfl hl.1 rfl (lv_room (Nat.le_of_ble_eq_true rfl)) dL_call_169 ⟨Nat.le_of_ble_eq_true rfl, Nat.le_of_ble_eq_true rfl⟩) hP hD (pmI _) hS hA (fun H locs hP hD hS => ?_)
                          have hP : va_P D vwCl (wB cy ad (w_X5_play V)) H := vP_perm hP (pmI _).symm
                          have hD : va_D A (wB cy ad (w_X5_play V)) := vD_perm hD (pmI _).symm
                          refine W.widen (k := 3) (n := 18) (Nat.le_of_ble_eq_true rfl) (Nat.le_of_ble_eq_true rfl) ?_
                          have hr9 : (r_L_tryPlay V) = (r_L_call V what a3 b3 c3) := by unfold r_L_call; simp only [if_neg c_1, if_neg c_2, if_neg c_3, if_neg c_4, if_neg c_5, if_neg c_6, if_neg c_7, if_neg c_8, if_neg c_9, if_neg c_10, if_neg c_11, if_pos c_12, if_true, if_false]
                          have hw9 : (w_L_call V what a3 b3 c3) = (w_X5_play V) := by unfold w_L_call; simp only [if_neg c_1, if_neg c_2, if_neg c_3, if_neg c_4, if_neg c_5, if_neg c_6, if_neg c_7, if_neg c_8, if_neg c_9, if_neg c_10, if_neg c_11, if_pos c_12, if_true, if_false]
                          exact hret _ H locs _ ls hr9 (by rw [hw9]; exact hP) (by rw [hw9]; exact hD) hS dL_call_172
                        · by_cases c_13 : what = 12
                          · refine lv_tableIn (tgt := 173) (off := 172) hx hb dL_call_1 (by rw [c_13]; decide) (by rw [c_13]; decide) (by rw [c_13]; rfl) (by decide) ?_
                            refine lv_aload_n hx hb dL_call_173 rfl (lv_at hl 0 rfl) ?_
                            refine cl_i (vx_runSW (As := [.ref (ad 0 0 0)]) (rest := []) ⟨hx, hb, hml, hown, hts⟩ (c_L_tryUndo l hlt D cy ad V H.size hho) (vx_cwSW 1 hts gL_call_L_tryUndo rfl rfl rfl (by decide +kernel) ⟨Nat.le_of_ble_eq_true rfl, Nat.le_of_ble_eq_true rfl⟩) ⟨blU, preU hP hD (pmI _) hK hE hS hA⟩ rfl rfl hl.1 rfl (lv_room (Nat.le_of_ble_eq_true rfl)) dL_call_174 ⟨Nat.le_of_ble_eq_true rfl, Nat.le_of_ble_eq_true rfl⟩) hP hD (pmI _) hS hA (fun H locs hP hD hS => ?_)
                            have hP : va_P D vwCl (wB cy ad (w_X5_undo V)) H := vP_perm hP (pmI _).symm
                            have hD : va_D A (wB cy ad (w_X5_undo V)) := vD_perm hD (pmI _).symm
                            refine W.widen (k := 3) (n := 18) (Nat.le_of_ble_eq_true rfl) (Nat.le_of_ble_eq_true rfl) ?_
                            have hr9 : (r_L_tryUndo V) = (r_L_call V what a3 b3 c3) := by unfold r_L_call; simp only [if_neg c_1, if_neg c_2, if_neg c_3, if_neg c_4, if_neg c_5, if_neg c_6, if_neg c_7, if_neg c_8, if_neg c_9, if_neg c_10, if_neg c_11, if_neg c_12, if_pos c_13, if_true, if_false]
                            have hw9 : (w_L_call V what a3 b3 c3) = (w_X5_undo V) := by unfold w_L_call; simp only [if_neg c_1, if_neg c_2, if_neg c_3, if_neg c_4, if_neg c_5, if_neg c_6, if_neg c_7, if_neg c_8, if_neg c_9, if_neg c_10, if_neg c_11, if_neg c_12, if_pos c_13, if_true, if_false]
                            exact hret _ H locs _ ls hr9 (by rw [hw9]; exact hP) (by rw [hw9]; exact hD) hS dL_call_177
                          · by_cases c_14 : what = 13
                            · refine lv_tableIn (tgt := 178) (off := 177) hx hb dL_call_1 (by rw [c_14]; decide) (by rw [c_14]; decide) (by rw [c_14]; rfl) (by decide) ?_
                              refine lv_aload_n hx hb dL_call_178 rfl (lv_at hl 0 rfl) ?_
                              refine lv_iload_n hx hb dL_call_179 rfl (lv_at hl 2 rfl) ?_
                              refine cl_i (vx_runSW (As := [.ref (ad 0 0 0), .int a3]) (rest := []) ⟨hx, hb, hml, hown, hts⟩ (c_L_tryMixing l hlt D cy ad V a3 H.size hsz2 hlen hg) (vx_cwSW 2 hts gL_call_L_tryMixing rfl rfl rfl (by decide +kernel) ⟨Nat.le_of_ble_eq_true rfl, Nat.le_of_ble_eq_true rfl⟩) ⟨blU, preU hP hD (pmI _) hK hE hS hA⟩ rfl rfl hl.1 rfl (lv_room (Nat.le_of_ble_eq_true rfl)) dL_call_180 ⟨Nat.le_of_ble_eq_true rfl, Nat.le_of_ble_eq_true rfl⟩) hP hD (pmI _) hS hA (fun H locs hP hD hS => ?_)
                              have hP : va_P D vwCl (wB cy ad (w_X5_bestMixing V a3)) H := vP_perm hP (pmI _).symm
                              have hD : va_D A (wB cy ad (w_X5_bestMixing V a3)) := vD_perm hD (pmI _).symm
                              refine W.widen (k := 3) (n := 18) (Nat.le_of_ble_eq_true rfl) (Nat.le_of_ble_eq_true rfl) ?_
                              have hr9 : (r_L_tryMixing V a3) = (r_L_call V what a3 b3 c3) := by unfold r_L_call; simp only [if_neg c_1, if_neg c_2, if_neg c_3, if_neg c_4, if_neg c_5, if_neg c_6, if_neg c_7, if_neg c_8, if_neg c_9, if_neg c_10, if_neg c_11, if_neg c_12, if_neg c_13, if_pos c_14, if_true, if_false]
                              have hw9 : (w_L_call V what a3 b3 c3) = (w_X5_bestMixing V a3) := by unfold w_L_call; simp only [if_neg c_1, if_neg c_2, if_neg c_3, if_neg c_4, if_neg c_5, if_neg c_6, if_neg c_7, if_neg c_8, if_neg c_9, if_neg c_10, if_neg c_11, if_neg c_12, if_neg c_13, if_pos c_14, if_true, if_false]
                              exact hret _ H locs _ ls hr9 (by rw [hw9]; exact hP) (by rw [hw9]; exact hD) hS dL_call_183
                            · by_cases c_15 : what = 14
                              · refine lv_tableIn (tgt := 184) (off := 183) hx hb dL_call_1 (by rw [c_15]; decide) (by rw [c_15]; decide) (by rw [c_15]; rfl) (by decide) ?_
                                refine lv_aload_n hx hb dL_call_184 rfl (lv_at hl 0 rfl) ?_
                                refine lv_iload_n hx hb dL_call_185 rfl (lv_at hl 2 rfl) ?_
                                refine cl_i (vx_runSW (As := [.ref (ad 0 0 0), .int a3]) (rest := []) ⟨hx, hb, hml, hown, hts⟩ (c_L_tryLength l hlt D cy ad V a3 H.size hsz2 hlen hg) (vx_cwSW 2 hts gL_call_L_tryLength rfl rfl rfl (by decide +kernel) ⟨Nat.le_of_ble_eq_true rfl, Nat.le_of_ble_eq_true rfl⟩) ⟨blU, preU hP hD (pmI _) hK hE hS hA⟩ rfl rfl hl.1 rfl (lv_room (Nat.le_of_ble_eq_true rfl)) dL_call_186 ⟨Nat.le_of_ble_eq_true rfl, Nat.le_of_ble_eq_true rfl⟩) hP hD (pmI _) hS hA (fun H locs hP hD hS => ?_)
                                have hP : va_P D vwCl (wB cy ad (w_X5_bestLength V a3)) H := vP_perm hP (pmI _).symm
                                have hD : va_D A (wB cy ad (w_X5_bestLength V a3)) := vD_perm hD (pmI _).symm
                                refine W.widen (k := 3) (n := 18) (Nat.le_of_ble_eq_true rfl) (Nat.le_of_ble_eq_true rfl) ?_
                                have hr9 : (r_L_tryLength V a3) = (r_L_call V what a3 b3 c3) := by unfold r_L_call; simp only [if_neg c_1, if_neg c_2, if_neg c_3, if_neg c_4, if_neg c_5, if_neg c_6, if_neg c_7, if_neg c_8, if_neg c_9, if_neg c_10, if_neg c_11, if_neg c_12, if_neg c_13, if_neg c_14, if_pos c_15, if_true, if_false]
                                have hw9 : (w_L_call V what a3 b3 c3) = (w_X5_bestLength V a3) := by unfold w_L_call; simp only [if_neg c_1, if_neg c_2, if_neg c_3, if_neg c_4, if_neg c_5, if_neg c_6, if_neg c_7, if_neg c_8, if_neg c_9, if_neg c_10, if_neg c_11, if_neg c_12, if_neg c_13, if_neg c_14, if_pos c_15, if_true, if_false]
                                exact hret _ H locs _ ls hr9 (by rw [hw9]; exact hP) (by rw [hw9]; exact hD) hS dL_call_189
                              · by_cases c_16 : what = 15
                                · refine lv_tableIn (tgt := 190) (off := 189) hx hb dL_call_1 (by rw [c_16]; decide) (by rw [c_16]; decide) (by rw [c_16]; rfl) (by decide) ?_
                                  refine lv_aload_n hx hb dL_call_190 rfl (lv_at hl 0 rfl) ?_
                                  refine lv_iload_n hx hb dL_call_191 rfl (lv_at hl 2 rfl) ?_
                                  refine lv_iload_n hx hb dL_call_192 rfl (lv_at hl 3 rfl) ?_
                                  refine cl_i (vx_runSW (As := [.ref (ad 0 0 0), .int a3, .int b3]) (rest := []) ⟨hx, hb, hml, hown, hts⟩ (c_L_trySharing l hlt D cy ad V a3 b3 H.size (hsh c_16)) (vx_cwSW 3 hts gL_call_L_trySharing rfl rfl rfl (by decide +kernel) ⟨Nat.le_of_ble_eq_true rfl, Nat.le_of_ble_eq_true rfl⟩) ⟨blU, preU hP hD (pmI _) hK hE hS hA⟩ rfl rfl hl.1 rfl (lv_room (Nat.le_of_ble_eq_true rfl)) dL_call_193 ⟨Nat.le_of_ble_eq_true rfl, Nat.le_of_ble_eq_true rfl⟩) hP hD (pmI _) hS hA (fun H locs hP hD hS => ?_)
                                  have hP : va_P D vwCl (wB cy ad V) H := vP_perm hP (pmI _).symm
                                  have hD : va_D A (wB cy ad V) := vD_perm hD (pmI _).symm
                                  refine W.widen (k := 3) (n := 18) (Nat.le_of_ble_eq_true rfl) (Nat.le_of_ble_eq_true rfl) ?_
                                  have hr9 : (r_L_trySharing V a3 b3) = (r_L_call V what a3 b3 c3) := by unfold r_L_call; simp only [if_neg c_1, if_neg c_2, if_neg c_3, if_neg c_4, if_neg c_5, if_neg c_6, if_neg c_7, if_neg c_8, if_neg c_9, if_neg c_10, if_neg c_11, if_neg c_12, if_neg c_13, if_neg c_14, if_neg c_15, if_pos c_16, if_true, if_false]
                                  have hw9 : (w_L_call V what a3 b3 c3) = V := by unfold w_L_call; simp only [if_neg c_1, if_neg c_2, if_neg c_3, if_neg c_4, if_neg c_5, if_neg c_6, if_neg c_7, if_neg c_8, if_neg c_9, if_neg c_10, if_neg c_11, if_neg c_12, if_neg c_13, if_neg c_14, if_neg c_15, if_pos c_16, if_true, if_false]
                                  exact hret _ H locs _ ls hr9 (by rw [hw9]; exact hP) (by rw [hw9]; exact hD) hS dL_call_196
                                · by_cases c_17 : what = 16
                                  · refine lv_tableIn (tgt := 197) (off := 196) hx hb dL_call_1 (by rw [c_17]; decide) (by rw [c_17]; decide) (by rw [c_17]; rfl) (by decide) ?_
                                    refine lv_aload_n hx hb dL_call_197 rfl (lv_at hl 0 rfl) ?_
                                    refine lv_iload_n hx hb dL_call_198 rfl (lv_at hl 2 rfl) ?_
                                    refine cl_i (vx_runSW (As := [.ref (ad 0 0 0), .int a3]) (rest := []) ⟨hx, hb, hml, hown, hts⟩ (c_L_tryHolds l hlt D cy ad V a3 H.size hsz2) (vx_cwSW 2 hts gL_call_L_tryHolds rfl rfl rfl (by decide +kernel) ⟨Nat.le_of_ble_eq_true rfl, Nat.le_of_ble_eq_true rfl⟩) ⟨blU, preU hP hD (pmI _) hK hE hS hA⟩ rfl rfl hl.1 rfl (lv_room (Nat.le_of_ble_eq_true rfl)) dL_call_199 ⟨Nat.le_of_ble_eq_true rfl, Nat.le_of_ble_eq_true rfl⟩) hP hD (pmI _) hS hA (fun H locs hP hD hS => ?_)
                                    have hP : va_P D vwCl (wB cy ad (w_X5_holds V a3)) H := vP_perm hP (pmI _).symm
                                    have hD : va_D A (wB cy ad (w_X5_holds V a3)) := vD_perm hD (pmI _).symm
                                    refine W.widen (k := 3) (n := 18) (Nat.le_of_ble_eq_true rfl) (Nat.le_of_ble_eq_true rfl) ?_
                                    have hr9 : (r_L_tryHolds V a3) = (r_L_call V what a3 b3 c3) := by unfold r_L_call; simp only [if_neg c_1, if_neg c_2, if_neg c_3, if_neg c_4, if_neg c_5, if_neg c_6, if_neg c_7, if_neg c_8, if_neg c_9, if_neg c_10, if_neg c_11, if_neg c_12, if_neg c_13, if_neg c_14, if_neg c_15, if_neg c_16, if_pos c_17, if_true, if_false]
                                    have hw9 : (w_L_call V what a3 b3 c3) = (w_X5_holds V a3) := by unfold w_L_call; simp only [if_neg c_1, if_neg c_2, if_neg c_3, if_neg c_4, if_neg c_5, if_neg c_6, if_neg c_7, if_neg c_8, if_neg c_9, if_neg c_10, if_neg c_11, if_neg c_12, if_neg c_13, if_neg c_14, if_neg c_15, if_neg c_16, if_pos c_17, if_true, if_false]
                                    exact hret _ H locs _ ls hr9 (by rw [hw9]; exact hP) (by rw [hw9]; exact hD) hS dL_call_202
                                  · by_cases c_18 : what = 17
                                    · refine lv_tableIn (tgt := 203) (off := 202) hx hb dL_call_1 (by rw [c_18]; decide) (by rw [c_18]; decide) (by rw [c_18]; rfl) (by decide) ?_
                                      refine lv_aload_n hx hb dL_call_203 rfl (lv_at hl 0 rfl) ?_
                                      refine lv_iload_n hx hb dL_call_204 rfl (lv_at hl 2 rfl) ?_
                                      refine cl_i (vx_runSW (As := [.ref (ad 0 0 0), .int a3]) (rest := []) ⟨hx, hb, hml, hown, hts⟩ (c_L_tryKeep l hlt D cy ad V a3 H.size) (vx_cwSW 2 hts gL_call_L_tryKeep rfl rfl rfl (by decide +kernel) ⟨Nat.le_of_ble_eq_true rfl, Nat.le_of_ble_eq_true rfl⟩) ⟨blU, preU hP hD (pmI _) hK hE hS hA⟩ rfl rfl hl.1 rfl (lv_room (Nat.le_of_ble_eq_true rfl)) dL_call_205 ⟨Nat.le_of_ble_eq_true rfl, Nat.le_of_ble_eq_true rfl⟩) hP hD (pmI _) hS hA (fun H locs hP hD hS => ?_)
                                      have hP : va_P D vwCl (wB cy ad (w_X5_save V a3)) H := vP_perm hP (pmI _).symm
                                      have hD : va_D A (wB cy ad (w_X5_save V a3)) := vD_perm hD (pmI _).symm
                                      refine W.widen (k := 3) (n := 18) (Nat.le_of_ble_eq_true rfl) (Nat.le_of_ble_eq_true rfl) ?_
                                      have hr9 : (r_L_tryKeep V a3) = (r_L_call V what a3 b3 c3) := by unfold r_L_call; simp only [if_neg c_1, if_neg c_2, if_neg c_3, if_neg c_4, if_neg c_5, if_neg c_6, if_neg c_7, if_neg c_8, if_neg c_9, if_neg c_10, if_neg c_11, if_neg c_12, if_neg c_13, if_neg c_14, if_neg c_15, if_neg c_16, if_neg c_17, if_pos c_18, if_true, if_false]
                                      have hw9 : (w_L_call V what a3 b3 c3) = (w_X5_save V a3) := by unfold w_L_call; simp only [if_neg c_1, if_neg c_2, if_neg c_3, if_neg c_4, if_neg c_5, if_neg c_6, if_neg c_7, if_neg c_8, if_neg c_9, if_neg c_10, if_neg c_11, if_neg c_12, if_neg c_13, if_neg c_14, if_neg c_15, if_neg c_16, if_neg c_17, if_pos c_18, if_true, if_false]
                                      exact hret _ H locs _ ls hr9 (by rw [hw9]; exact hP) (by rw [hw9]; exact hD) hS dL_call_208
                                    · have hso : what.toInt < 0 ∨ 17 < what.toInt := sw_out18 what c_1 c_2 c_3 c_4 c_5 c_6 c_7 c_8 c_9 c_10 c_11 c_12 c_13 c_14 c_15 c_16 c_17 c_18
                                      refine lv_tableOut (tgt := 209) hx hb dL_call_1 hso (by decide) ?_
                                      refine lv_aload_n hx hb dL_call_209 rfl (lv_at hl 0 rfl) ?_
                                      refine lv_iload_n hx hb dL_call_210 rfl (lv_at hl 2 rfl) ?_
                                      refine cl_i (vx_runSW (As := [.ref (ad 0 0 0), .int a3]) (rest := []) ⟨hx, hb, hml, hown, hts⟩ (c_L_tryBack l hlt D cy ad V a3 H.size) (vx_cwSW 2 hts gL_call_L_tryBack rfl rfl rfl (by decide +kernel) ⟨Nat.le_of_ble_eq_true rfl, Nat.le_of_ble_eq_true rfl⟩) ⟨blU, preU hP hD (pmI _) hK hE hS hA⟩ rfl rfl hl.1 rfl (lv_room (Nat.le_of_ble_eq_true rfl)) dL_call_211 ⟨Nat.le_of_ble_eq_true rfl, Nat.le_of_ble_eq_true rfl⟩) hP hD (pmI _) hS hA (fun H locs hP hD hS => ?_)
                                      have hP : va_P D vwCl (wB cy ad (w_X5_restore V a3)) H := vP_perm hP (pmI _).symm
                                      have hD : va_D A (wB cy ad (w_X5_restore V a3)) := vD_perm hD (pmI _).symm
                                      refine W.widen (k := 3) (n := 18) (Nat.le_of_ble_eq_true rfl) (Nat.le_of_ble_eq_true rfl) ?_
                                      have hr9 : (r_L_tryBack V a3) = (r_L_call V what a3 b3 c3) := by unfold r_L_call; simp only [if_neg c_1, if_neg c_2, if_neg c_3, if_neg c_4, if_neg c_5, if_neg c_6, if_neg c_7, if_neg c_8, if_neg c_9, if_neg c_10, if_neg c_11, if_neg c_12, if_neg c_13, if_neg c_14, if_neg c_15, if_neg c_16, if_neg c_17, if_neg c_18, if_true, if_false]
                                      have hw9 : (w_L_call V what a3 b3 c3) = (w_X5_restore V a3) := by unfold w_L_call; simp only [if_neg c_1, if_neg c_2, if_neg c_3, if_neg c_4, if_neg c_5, if_neg c_6, if_neg c_7, if_neg c_8, if_neg c_9, if_neg c_10, if_neg c_11, if_neg c_12, if_neg c_13, if_neg c_14, if_neg c_15, if_neg c_16, if_neg c_17, if_neg c_18, if_true, if_false]
                                      exact hret _ H locs _ ls hr9 (by rw [hw9]; exact hP) (by rw [hw9]; exact hD) hS dL_call_214

theorem rc_0 (V : BV) (a3 b3 c3 : Int32) : r_L_call V 0 a3 b3 c3 = r_L_tryAppend V a3 := by
  unfold r_L_call
  rw [if_pos rfl]
theorem wc_0 (V : BV) (a3 b3 c3 : Int32) : w_L_call V 0 a3 b3 c3 = (w_X5_append V a3) := by
  unfold w_L_call
  rw [if_pos rfl]
theorem rc_1 (V : BV) (a3 b3 c3 : Int32) : r_L_call V 1 a3 b3 c3 = r_L_tryAbout V a3 := by
  unfold r_L_call
  rw [if_neg (by decide), if_pos rfl]
theorem wc_1 (V : BV) (a3 b3 c3 : Int32) : w_L_call V 1 a3 b3 c3 = V := by
  unfold w_L_call
  rw [if_neg (by decide), if_pos rfl]
theorem rc_2 (V : BV) (a3 b3 c3 : Int32) : r_L_call V 2 a3 b3 c3 = r_L_tryDesk V a3 b3 := by
  unfold r_L_call
  rw [if_neg (by decide), if_neg (by decide), if_pos rfl]
theorem wc_2 (V : BV) (a3 b3 c3 : Int32) : w_L_call V 2 a3 b3 c3 = V := by
  unfold w_L_call
  rw [if_neg (by decide), if_neg (by decide), if_pos rfl]
theorem rc_3 (V : BV) (a3 b3 c3 : Int32) : r_L_call V 3 a3 b3 c3 = r_L_tryNote V a3 b3 c3 := by
  unfold r_L_call
  rw [if_neg (by decide), if_neg (by decide), if_neg (by decide), if_pos rfl]
theorem wc_3 (V : BV) (a3 b3 c3 : Int32) : w_L_call V 3 a3 b3 c3 = V := by
  unfold w_L_call
  rw [if_neg (by decide), if_neg (by decide), if_neg (by decide), if_pos rfl]
theorem rc_4 (V : BV) (a3 b3 c3 : Int32) : r_L_call V 4 a3 b3 c3 = r_L_tryPlace V a3 b3 := by
  unfold r_L_call
  rw [if_neg (by decide), if_neg (by decide), if_neg (by decide), if_neg (by decide), if_pos rfl]
theorem wc_4 (V : BV) (a3 b3 c3 : Int32) : w_L_call V 4 a3 b3 c3 = V := by
  unfold w_L_call
  rw [if_neg (by decide), if_neg (by decide), if_neg (by decide), if_neg (by decide), if_pos rfl]
theorem rc_5 (V : BV) (a3 b3 c3 : Int32) : r_L_call V 5 a3 b3 c3 = r_L_tryPath V a3 b3 := by
  unfold r_L_call
  rw [if_neg (by decide), if_neg (by decide), if_neg (by decide), if_neg (by decide), if_neg (by decide), if_pos rfl]
theorem wc_5 (V : BV) (a3 b3 c3 : Int32) : w_L_call V 5 a3 b3 c3 = V := by
  unfold w_L_call
  rw [if_neg (by decide), if_neg (by decide), if_neg (by decide), if_neg (by decide), if_neg (by decide), if_pos rfl]
theorem rc_6 (V : BV) (a3 b3 c3 : Int32) : r_L_call V 6 a3 b3 c3 = r_L_tryNumber V a3 b3 := by
  unfold r_L_call
  rw [if_neg (by decide), if_neg (by decide), if_neg (by decide), if_neg (by decide), if_neg (by decide), if_neg (by decide), if_pos rfl]
theorem wc_6 (V : BV) (a3 b3 c3 : Int32) : w_L_call V 6 a3 b3 c3 = V := by
  unfold w_L_call
  rw [if_neg (by decide), if_neg (by decide), if_neg (by decide), if_neg (by decide), if_neg (by decide), if_neg (by decide), if_pos rfl]
theorem rc_7 (V : BV) (a3 b3 c3 : Int32) : r_L_call V 7 a3 b3 c3 = r_L_tryShare V a3 := by
  unfold r_L_call
  rw [if_neg (by decide), if_neg (by decide), if_neg (by decide), if_neg (by decide), if_neg (by decide), if_neg (by decide), if_neg (by decide), if_pos rfl]
theorem wc_7 (V : BV) (a3 b3 c3 : Int32) : w_L_call V 7 a3 b3 c3 = V := by
  unfold w_L_call
  rw [if_neg (by decide), if_neg (by decide), if_neg (by decide), if_neg (by decide), if_neg (by decide), if_neg (by decide), if_neg (by decide), if_pos rfl]
theorem rc_8 (V : BV) (a3 b3 c3 : Int32) : r_L_call V 8 a3 b3 c3 = r_L_tryTune V a3 b3 c3 := by
  unfold r_L_call
  rw [if_neg (by decide), if_neg (by decide), if_neg (by decide), if_neg (by decide), if_neg (by decide), if_neg (by decide), if_neg (by decide), if_neg (by decide), if_pos rfl]
theorem wc_8 (V : BV) (a3 b3 c3 : Int32) : w_L_call V 8 a3 b3 c3 = (w_X5_setDesk V a3 b3 c3) := by
  unfold w_L_call
  rw [if_neg (by decide), if_neg (by decide), if_neg (by decide), if_neg (by decide), if_neg (by decide), if_neg (by decide), if_neg (by decide), if_neg (by decide), if_pos rfl]
theorem rc_9 (V : BV) (a3 b3 c3 : Int32) : r_L_call V 9 a3 b3 c3 = r_L_trySet V a3 b3 := by
  unfold r_L_call
  rw [if_neg (by decide), if_neg (by decide), if_neg (by decide), if_neg (by decide), if_neg (by decide), if_neg (by decide), if_neg (by decide), if_neg (by decide), if_neg (by decide), if_pos rfl]
theorem wc_9 (V : BV) (a3 b3 c3 : Int32) : w_L_call V 9 a3 b3 c3 = (w_X5_set V a3 b3) := by
  unfold w_L_call
  rw [if_neg (by decide), if_neg (by decide), if_neg (by decide), if_neg (by decide), if_neg (by decide), if_neg (by decide), if_neg (by decide), if_neg (by decide), if_neg (by decide), if_pos rfl]
theorem rc_10 (V : BV) (a3 b3 c3 : Int32) : r_L_call V 10 a3 b3 c3 = r_L_tryGrow V a3 b3 c3 := by
  unfold r_L_call
  rw [if_neg (by decide), if_neg (by decide), if_neg (by decide), if_neg (by decide), if_neg (by decide), if_neg (by decide), if_neg (by decide), if_neg (by decide), if_neg (by decide), if_neg (by decide), if_pos rfl]
theorem wc_10 (V : BV) (a3 b3 c3 : Int32) : w_L_call V 10 a3 b3 c3 = (w_X5_strengthen V a3 b3 c3) := by
  unfold w_L_call
  rw [if_neg (by decide), if_neg (by decide), if_neg (by decide), if_neg (by decide), if_neg (by decide), if_neg (by decide), if_neg (by decide), if_neg (by decide), if_neg (by decide), if_neg (by decide), if_pos rfl]
theorem rc_11 (V : BV) (a3 b3 c3 : Int32) : r_L_call V 11 a3 b3 c3 = r_L_tryPlay V := by
  unfold r_L_call
  rw [if_neg (by decide), if_neg (by decide), if_neg (by decide), if_neg (by decide), if_neg (by decide), if_neg (by decide), if_neg (by decide), if_neg (by decide), if_neg (by decide), if_neg (by decide), if_neg (by decide), if_pos rfl]
theorem wc_11 (V : BV) (a3 b3 c3 : Int32) : w_L_call V 11 a3 b3 c3 = (w_X5_play V) := by
  unfold w_L_call
  rw [if_neg (by decide), if_neg (by decide), if_neg (by decide), if_neg (by decide), if_neg (by decide), if_neg (by decide), if_neg (by decide), if_neg (by decide), if_neg (by decide), if_neg (by decide), if_neg (by decide), if_pos rfl]
theorem rc_12 (V : BV) (a3 b3 c3 : Int32) : r_L_call V 12 a3 b3 c3 = r_L_tryUndo V := by
  unfold r_L_call
  rw [if_neg (by decide), if_neg (by decide), if_neg (by decide), if_neg (by decide), if_neg (by decide), if_neg (by decide), if_neg (by decide), if_neg (by decide), if_neg (by decide), if_neg (by decide), if_neg (by decide), if_neg (by decide), if_pos rfl]
theorem wc_12 (V : BV) (a3 b3 c3 : Int32) : w_L_call V 12 a3 b3 c3 = (w_X5_undo V) := by
  unfold w_L_call
  rw [if_neg (by decide), if_neg (by decide), if_neg (by decide), if_neg (by decide), if_neg (by decide), if_neg (by decide), if_neg (by decide), if_neg (by decide), if_neg (by decide), if_neg (by decide), if_neg (by decide), if_neg (by decide), if_pos rfl]
theorem rc_13 (V : BV) (a3 b3 c3 : Int32) : r_L_call V 13 a3 b3 c3 = r_L_tryMixing V a3 := by
  unfold r_L_call
  rw [if_neg (by decide), if_neg (by decide), if_neg (by decide), if_neg (by decide), if_neg (by decide), if_neg (by decide), if_neg (by decide), if_neg (by decide), if_neg (by decide), if_neg (by decide), if_neg (by decide), if_neg (by decide), if_neg (by decide), if_pos rfl]
theorem wc_13 (V : BV) (a3 b3 c3 : Int32) : w_L_call V 13 a3 b3 c3 = (w_X5_bestMixing V a3) := by
  unfold w_L_call
  rw [if_neg (by decide), if_neg (by decide), if_neg (by decide), if_neg (by decide), if_neg (by decide), if_neg (by decide), if_neg (by decide), if_neg (by decide), if_neg (by decide), if_neg (by decide), if_neg (by decide), if_neg (by decide), if_neg (by decide), if_pos rfl]
theorem rc_14 (V : BV) (a3 b3 c3 : Int32) : r_L_call V 14 a3 b3 c3 = r_L_tryLength V a3 := by
  unfold r_L_call
  rw [if_neg (by decide), if_neg (by decide), if_neg (by decide), if_neg (by decide), if_neg (by decide), if_neg (by decide), if_neg (by decide), if_neg (by decide), if_neg (by decide), if_neg (by decide), if_neg (by decide), if_neg (by decide), if_neg (by decide), if_neg (by decide), if_pos rfl]
theorem wc_14 (V : BV) (a3 b3 c3 : Int32) : w_L_call V 14 a3 b3 c3 = (w_X5_bestLength V a3) := by
  unfold w_L_call
  rw [if_neg (by decide), if_neg (by decide), if_neg (by decide), if_neg (by decide), if_neg (by decide), if_neg (by decide), if_neg (by decide), if_neg (by decide), if_neg (by decide), if_neg (by decide), if_neg (by decide), if_neg (by decide), if_neg (by decide), if_neg (by decide), if_pos rfl]
theorem rc_15 (V : BV) (a3 b3 c3 : Int32) : r_L_call V 15 a3 b3 c3 = r_L_trySharing V a3 b3 := by
  unfold r_L_call
  rw [if_neg (by decide), if_neg (by decide), if_neg (by decide), if_neg (by decide), if_neg (by decide), if_neg (by decide), if_neg (by decide), if_neg (by decide), if_neg (by decide), if_neg (by decide), if_neg (by decide), if_neg (by decide), if_neg (by decide), if_neg (by decide), if_neg (by decide), if_pos rfl]
theorem wc_15 (V : BV) (a3 b3 c3 : Int32) : w_L_call V 15 a3 b3 c3 = V := by
  unfold w_L_call
  rw [if_neg (by decide), if_neg (by decide), if_neg (by decide), if_neg (by decide), if_neg (by decide), if_neg (by decide), if_neg (by decide), if_neg (by decide), if_neg (by decide), if_neg (by decide), if_neg (by decide), if_neg (by decide), if_neg (by decide), if_neg (by decide), if_neg (by decide), if_pos rfl]
theorem rc_16 (V : BV) (a3 b3 c3 : Int32) : r_L_call V 16 a3 b3 c3 = r_L_tryHolds V a3 := by
  unfold r_L_call
  rw [if_neg (by decide), if_neg (by decide), if_neg (by decide), if_neg (by decide), if_neg (by decide), if_neg (by decide), if_neg (by decide), if_neg (by decide), if_neg (by decide), if_neg (by decide), if_neg (by decide), if_neg (by decide), if_neg (by decide), if_neg (by decide), if_neg (by decide), if_neg (by decide), if_pos rfl]
theorem wc_16 (V : BV) (a3 b3 c3 : Int32) : w_L_call V 16 a3 b3 c3 = (w_X5_holds V a3) := by
  unfold w_L_call
  rw [if_neg (by decide), if_neg (by decide), if_neg (by decide), if_neg (by decide), if_neg (by decide), if_neg (by decide), if_neg (by decide), if_neg (by decide), if_neg (by decide), if_neg (by decide), if_neg (by decide), if_neg (by decide), if_neg (by decide), if_neg (by decide), if_neg (by decide), if_neg (by decide), if_pos rfl]
theorem rc_17 (V : BV) (a3 b3 c3 : Int32) : r_L_call V 17 a3 b3 c3 = r_L_tryKeep V a3 := by
  unfold r_L_call
  rw [if_neg (by decide), if_neg (by decide), if_neg (by decide), if_neg (by decide), if_neg (by decide), if_neg (by decide), if_neg (by decide), if_neg (by decide), if_neg (by decide), if_neg (by decide), if_neg (by decide), if_neg (by decide), if_neg (by decide), if_neg (by decide), if_neg (by decide), if_neg (by decide), if_neg (by decide), if_pos rfl]
theorem wc_17 (V : BV) (a3 b3 c3 : Int32) : w_L_call V 17 a3 b3 c3 = (w_X5_save V a3) := by
  unfold w_L_call
  rw [if_neg (by decide), if_neg (by decide), if_neg (by decide), if_neg (by decide), if_neg (by decide), if_neg (by decide), if_neg (by decide), if_neg (by decide), if_neg (by decide), if_neg (by decide), if_neg (by decide), if_neg (by decide), if_neg (by decide), if_neg (by decide), if_neg (by decide), if_neg (by decide), if_neg (by decide), if_pos rfl]
theorem rc_18 (V : BV) (a3 b3 c3 : Int32) : r_L_call V 18 a3 b3 c3 = r_L_tryBack V a3 := by
  unfold r_L_call
  rw [if_neg (by decide), if_neg (by decide), if_neg (by decide), if_neg (by decide), if_neg (by decide), if_neg (by decide), if_neg (by decide), if_neg (by decide), if_neg (by decide), if_neg (by decide), if_neg (by decide), if_neg (by decide), if_neg (by decide), if_neg (by decide), if_neg (by decide), if_neg (by decide), if_neg (by decide), if_neg (by decide)]
theorem wc_18 (V : BV) (a3 b3 c3 : Int32) : w_L_call V 18 a3 b3 c3 = (w_X5_restore V a3) := by
  unfold w_L_call
  rw [if_neg (by decide), if_neg (by decide), if_neg (by decide), if_neg (by decide), if_neg (by decide), if_neg (by decide), if_neg (by decide), if_neg (by decide), if_neg (by decide), if_neg (by decide), if_neg (by decide), if_neg (by decide), if_neg (by decide), if_neg (by decide), if_neg (by decide), if_neg (by decide), if_neg (by decide), if_neg (by decide)]
