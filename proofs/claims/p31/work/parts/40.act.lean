/-! ===== the law: act ===== -/
abbrev rL_act : Room := { frames := 10, cells := 15, slots := 90, locals := 209 }
/-- an act gives the same answer, and leaves the same behind, wherever the object lies -/
def ActOK (B : Nat) (V : BV) (x y : Int32) : Prop := ∃ (r : Int32) (V1 : BV), BInv (B + 300) V1 ∧ ∀ (l : Launch) (_ : l.stackTraces = false) (D : va_G) (cy : Nat → ClassId) (ad : AD) (sz : Nat), CI l yL_act wsL_act rL_act D cy [.ref (ad 0 0 0), .int x, .int y] (wB cy ad V) sz r (wB cy ad V1) 15 90
set_option maxHeartbeats 4000000 in
set_option maxRecDepth 100000 in
theorem act_0 {B : Nat} {V : BV} (hB : BInv B V) (hb30 : B + 300 < 2 ^ 30) {x y : Int32} (h16 : (x - x / (16 : Int32) * (16 : Int32)) = 0) : ActOK B V x y := by
  refine ⟨(r_L_call V (8 : Int32) (y - y / (2 : Int32) * (2 : Int32)) ((y / (2 : Int32)) - (y / (2 : Int32)) / (3 : Int32) * (3 : Int32)) ((y / (8 : Int32)) - (y / (8 : Int32)) / (7 : Int32) * (7 : Int32))), (w_L_call V (8 : Int32) (y - y / (2 : Int32) * (2 : Int32)) ((y / (2 : Int32)) - (y / (2 : Int32)) / (3 : Int32) * (3 : Int32)) ((y / (8 : Int32)) - (y / (8 : Int32)) / (7 : Int32) * (7 : Int32))), (by rw [wc_8]; exact (hB.setDesk _ _ _).mono (by omega)), fun l hlt D cy ad sz => ?_⟩
  refine st_i (ty := .int) (cc := cL_act) (maxL := 7) (by decide) rfl rfl (Nat.le_of_ble_eq_true rfl) ?_
  intro pp e s m below meth c A Q ls hx hb hts hown hml hlocks hsz hP hK hD hE hA hl hret
  subst hsz
  have hown : s.vm.findClass RL = some m.cls := hown
  have hl : lv_has ls 7 [(0, .ref (ad 0 0 0)), (1, .int x), (2, .int y)] := hl
  obtain ⟨H, hH⟩ : ∃ H, H = s.heap := ⟨_, rfl⟩
  rw [← hH] at hP ⊢
  have hS : va_S A s.heap H [] := by rw [hH]; exact va_S.rf
  obtain ⟨locs, hlo⟩ : ∃ locs : List Loc, locs = [] := ⟨_, rfl⟩
  rw [← hlo] at hS ⊢
  refine lv_iload_n hx hb dL_act_0 rfl (lv_at hl 1 rfl) ?_
  refine lv_bipush (v := 16) hx hb dL_act_1 (by decide) ?_
  refine lv_irem hx hb dL_act_3 (by decide) ?_
  refine lv_tableIn (tgt := 60) (off := 56) hx hb dL_act_4 (by rw [h16]; decide) (by rw [h16]; decide) (by rw [h16]; rfl) (by decide) ?_
  refine lv_aload_n hx hb dL_act_60 rfl (lv_at hl 0 rfl) ?_
  refine lv_bipush (v := 8) hx hb dL_act_61 (by decide) ?_
  refine lv_iload_n hx hb dL_act_63 rfl (lv_at hl 2 rfl) ?_
  refine lv_iconst (v := 2) hx hb dL_act_64 (by decide) ?_
  refine lv_irem hx hb dL_act_65 (by decide) ?_
  refine lv_iload_n hx hb dL_act_66 rfl (lv_at hl 2 rfl) ?_
  refine lv_iconst (v := 2) hx hb dL_act_67 (by decide) ?_
  refine lv_idiv hx hb dL_act_68 (by decide) ?_
  refine lv_iconst (v := 3) hx hb dL_act_69 (by decide) ?_
  refine lv_irem hx hb dL_act_70 (by decide) ?_
  refine lv_iload_n hx hb dL_act_71 rfl (lv_at hl 2 rfl) ?_
  refine lv_bipush (v := 8) hx hb dL_act_72 (by decide) ?_
  refine lv_idiv hx hb dL_act_74 (by decide) ?_
  refine lv_bipush (v := 7) hx hb dL_act_75 (by decide) ?_
  refine lv_irem hx hb dL_act_77 (by decide) ?_
  refine cl_i (va_runS (As := [.ref (ad 0 0 0), .int (8 : Int32), .int (y - y / (2 : Int32) * (2 : Int32)), .int ((y / (2 : Int32)) - (y / (2 : Int32)) / (3 : Int32) * (3 : Int32)), .int ((y / (8 : Int32)) - (y / (8 : Int32)) / (7 : Int32) * (7 : Int32))]) (rest := []) ⟨hx, hb, hml, hown, hts⟩ (cca l hlt D cy ad (B := B) (V := V) (V' := (w_L_call V (8 : Int32) (y - y / (2 : Int32) * (2 : Int32)) ((y / (2 : Int32)) - (y / (2 : Int32)) / (3 : Int32) * (3 : Int32)) ((y / (8 : Int32)) - (y / (8 : Int32)) / (7 : Int32) * (7 : Int32)))) hB (what := (8 : Int32)) (a := (y - y / (2 : Int32) * (2 : Int32))) (b := ((y / (2 : Int32)) - (y / (2 : Int32)) / (3 : Int32) * (3 : Int32))) (c := ((y / (8 : Int32)) - (y / (8 : Int32)) / (7 : Int32) * (7 : Int32))) (r := (r_L_call V (8 : Int32) (y - y / (2 : Int32) * (2 : Int32)) ((y / (2 : Int32)) - (y / (2 : Int32)) / (3 : Int32) * (3 : Int32)) ((y / (8 : Int32)) - (y / (8 : Int32)) / (7 : Int32) * (7 : Int32)))) rfl rfl (n15 (by decide)) H.size) (va_cwS 5 hts gL_act_L_call rfl rfl rfl (by decide +kernel) ⟨Nat.le_of_ble_eq_true rfl, Nat.le_of_ble_eq_true rfl⟩) ⟨blU, preU hP hD (pmI _) hK hE hS hA⟩ rfl rfl hl.1 rfl (lv_room (Nat.le_of_ble_eq_true rfl)) dL_act_78 ⟨Nat.le_of_ble_eq_true rfl, Nat.le_of_ble_eq_true rfl⟩) hP hD (pmI _) hS hA (fun H locs hP hD hS => ?_)
  have hP : va_P D vwCl (wB cy ad (w_L_call V (8 : Int32) (y - y / (2 : Int32) * (2 : Int32)) ((y / (2 : Int32)) - (y / (2 : Int32)) / (3 : Int32) * (3 : Int32)) ((y / (8 : Int32)) - (y / (8 : Int32)) / (7 : Int32) * (7 : Int32)))) H := vP_perm hP (pmI _).symm
  have hD : va_D A (wB cy ad (w_L_call V (8 : Int32) (y - y / (2 : Int32) * (2 : Int32)) ((y / (2 : Int32)) - (y / (2 : Int32)) / (3 : Int32) * (3 : Int32)) ((y / (8 : Int32)) - (y / (8 : Int32)) / (7 : Int32) * (7 : Int32)))) := vD_perm hD (pmI _).symm
  refine W.widen (k := 15) (n := 90) (Nat.le_of_ble_eq_true rfl) (Nat.le_of_ble_eq_true rfl) ?_
  exact hret _ H locs _ ls rfl hP hD hS dL_act_81

set_option maxHeartbeats 4000000 in
set_option maxRecDepth 100000 in
theorem act_1 {B : Nat} {V : BV} (hB : BInv B V) (hb30 : B + 300 < 2 ^ 30) {x y : Int32} (h16 : (x - x / (16 : Int32) * (16 : Int32)) = 1) : ActOK B V x y := by
  refine ⟨(r_L_call V (9 : Int32) (y - y / (3 : Int32) * (3 : Int32)) ((2 : Int32) + ((y / (4 : Int32)) - (y / (4 : Int32)) / (4 : Int32) * (4 : Int32))) (0 : Int32)), (w_L_call V (9 : Int32) (y - y / (3 : Int32) * (3 : Int32)) ((2 : Int32) + ((y / (4 : Int32)) - (y / (4 : Int32)) / (4 : Int32) * (4 : Int32))) (0 : Int32)), (by rw [wc_9]; exact (hB.set _ _).mono (by omega)), fun l hlt D cy ad sz => ?_⟩
  refine st_i (ty := .int) (cc := cL_act) (maxL := 7) (by decide) rfl rfl (Nat.le_of_ble_eq_true rfl) ?_
  intro pp e s m below meth c A Q ls hx hb hts hown hml hlocks hsz hP hK hD hE hA hl hret
  subst hsz
  have hown : s.vm.findClass RL = some m.cls := hown
  have hl : lv_has ls 7 [(0, .ref (ad 0 0 0)), (1, .int x), (2, .int y)] := hl
  obtain ⟨H, hH⟩ : ∃ H, H = s.heap := ⟨_, rfl⟩
  rw [← hH] at hP ⊢
  have hS : va_S A s.heap H [] := by rw [hH]; exact va_S.rf
  obtain ⟨locs, hlo⟩ : ∃ locs : List Loc, locs = [] := ⟨_, rfl⟩
  rw [← hlo] at hS ⊢
  refine lv_iload_n hx hb dL_act_0 rfl (lv_at hl 1 rfl) ?_
  refine lv_bipush (v := 16) hx hb dL_act_1 (by decide) ?_
  refine lv_irem hx hb dL_act_3 (by decide) ?_
  refine lv_tableIn (tgt := 82) (off := 78) hx hb dL_act_4 (by rw [h16]; decide) (by rw [h16]; decide) (by rw [h16]; rfl) (by decide) ?_
  refine lv_aload_n hx hb dL_act_82 rfl (lv_at hl 0 rfl) ?_
  refine lv_bipush (v := 9) hx hb dL_act_83 (by decide) ?_
  refine lv_iload_n hx hb dL_act_85 rfl (lv_at hl 2 rfl) ?_
  refine lv_iconst (v := 3) hx hb dL_act_86 (by decide) ?_
  refine lv_irem hx hb dL_act_87 (by decide) ?_
  refine lv_iconst (v := 2) hx hb dL_act_88 (by decide) ?_
  refine lv_iload_n hx hb dL_act_89 rfl (lv_at hl 2 rfl) ?_
  refine lv_iconst (v := 4) hx hb dL_act_90 (by decide) ?_
  refine lv_idiv hx hb dL_act_91 (by decide) ?_
  refine lv_iconst (v := 4) hx hb dL_act_92 (by decide) ?_
  refine lv_irem hx hb dL_act_93 (by decide) ?_
  refine lv_iadd hx hb dL_act_94 ?_
  refine lv_iconst (v := 0) hx hb dL_act_95 (by decide) ?_
  refine cl_i (va_runS (As := [.ref (ad 0 0 0), .int (9 : Int32), .int (y - y / (3 : Int32) * (3 : Int32)), .int ((2 : Int32) + ((y / (4 : Int32)) - (y / (4 : Int32)) / (4 : Int32) * (4 : Int32))), .int (0 : Int32)]) (rest := []) ⟨hx, hb, hml, hown, hts⟩ (cca l hlt D cy ad (B := B) (V := V) (V' := (w_L_call V (9 : Int32) (y - y / (3 : Int32) * (3 : Int32)) ((2 : Int32) + ((y / (4 : Int32)) - (y / (4 : Int32)) / (4 : Int32) * (4 : Int32))) (0 : Int32))) hB (what := (9 : Int32)) (a := (y - y / (3 : Int32) * (3 : Int32))) (b := ((2 : Int32) + ((y / (4 : Int32)) - (y / (4 : Int32)) / (4 : Int32) * (4 : Int32)))) (c := (0 : Int32)) (r := (r_L_call V (9 : Int32) (y - y / (3 : Int32) * (3 : Int32)) ((2 : Int32) + ((y / (4 : Int32)) - (y / (4 : Int32)) / (4 : Int32) * (4 : Int32))) (0 : Int32))) rfl rfl (n15 (by decide)) H.size) (va_cwS 5 hts gL_act_L_call rfl rfl rfl (by decide +kernel) ⟨Nat.le_of_ble_eq_true rfl, Nat.le_of_ble_eq_true rfl⟩) ⟨blU, preU hP hD (pmI _) hK hE hS hA⟩ rfl rfl hl.1 rfl (lv_room (Nat.le_of_ble_eq_true rfl)) dL_act_96 ⟨Nat.le_of_ble_eq_true rfl, Nat.le_of_ble_eq_true rfl⟩) hP hD (pmI _) hS hA (fun H locs hP hD hS => ?_)
  have hP : va_P D vwCl (wB cy ad (w_L_call V (9 : Int32) (y - y / (3 : Int32) * (3 : Int32)) ((2 : Int32) + ((y / (4 : Int32)) - (y / (4 : Int32)) / (4 : Int32) * (4 : Int32))) (0 : Int32))) H := vP_perm hP (pmI _).symm
  have hD : va_D A (wB cy ad (w_L_call V (9 : Int32) (y - y / (3 : Int32) * (3 : Int32)) ((2 : Int32) + ((y / (4 : Int32)) - (y / (4 : Int32)) / (4 : Int32) * (4 : Int32))) (0 : Int32))) := vD_perm hD (pmI _).symm
  refine W.widen (k := 15) (n := 90) (Nat.le_of_ble_eq_true rfl) (Nat.le_of_ble_eq_true rfl) ?_
  exact hret _ H locs _ ls rfl hP hD hS dL_act_99

set_option maxHeartbeats 4000000 in
set_option maxRecDepth 100000 in
theorem act_2 {B : Nat} {V : BV} (hB : BInv B V) (hb30 : B + 300 < 2 ^ 30) {x y : Int32} (h16 : (x - x / (16 : Int32) * (16 : Int32)) = 2) : ActOK B V x y := by
  refine ⟨(r_L_call V (10 : Int32) (y - y / (2 : Int32) * (2 : Int32)) ((y / (2 : Int32)) - (y / (2 : Int32)) / (4 : Int32) * (4 : Int32)) ((y / (8 : Int32)) - (y / (8 : Int32)) / (4 : Int32) * (4 : Int32))), (w_L_call V (10 : Int32) (y - y / (2 : Int32) * (2 : Int32)) ((y / (2 : Int32)) - (y / (2 : Int32)) / (4 : Int32) * (4 : Int32)) ((y / (8 : Int32)) - (y / (8 : Int32)) / (4 : Int32) * (4 : Int32))), (by rw [wc_10]; exact (hB.grow _ _ _).mono (by omega)), fun l hlt D cy ad sz => ?_⟩
  refine st_i (ty := .int) (cc := cL_act) (maxL := 7) (by decide) rfl rfl (Nat.le_of_ble_eq_true rfl) ?_
  intro pp e s m below meth c A Q ls hx hb hts hown hml hlocks hsz hP hK hD hE hA hl hret
  subst hsz
  have hown : s.vm.findClass RL = some m.cls := hown
  have hl : lv_has ls 7 [(0, .ref (ad 0 0 0)), (1, .int x), (2, .int y)] := hl
  obtain ⟨H, hH⟩ : ∃ H, H = s.heap := ⟨_, rfl⟩
  rw [← hH] at hP ⊢
  have hS : va_S A s.heap H [] := by rw [hH]; exact va_S.rf
  obtain ⟨locs, hlo⟩ : ∃ locs : List Loc, locs = [] := ⟨_, rfl⟩
  rw [← hlo] at hS ⊢
  refine lv_iload_n hx hb dL_act_0 rfl (lv_at hl 1 rfl) ?_
  refine lv_bipush (v := 16) hx hb dL_act_1 (by decide) ?_
  refine lv_irem hx hb dL_act_3 (by decide) ?_
  refine lv_tableIn (tgt := 100) (off := 96) hx hb dL_act_4 (by rw [h16]; decide) (by rw [h16]; decide) (by rw [h16]; rfl) (by decide) ?_
  refine lv_aload_n hx hb dL_act_100 rfl (lv_at hl 0 rfl) ?_
  refine lv_bipush (v := 10) hx hb dL_act_101 (by decide) ?_
  refine lv_iload_n hx hb dL_act_103 rfl (lv_at hl 2 rfl) ?_
  refine lv_iconst (v := 2) hx hb dL_act_104 (by decide) ?_
  refine lv_irem hx hb dL_act_105 (by decide) ?_
  refine lv_iload_n hx hb dL_act_106 rfl (lv_at hl 2 rfl) ?_
  refine lv_iconst (v := 2) hx hb dL_act_107 (by decide) ?_
  refine lv_idiv hx hb dL_act_108 (by decide) ?_
  refine lv_iconst (v := 4) hx hb dL_act_109 (by decide) ?_
  refine lv_irem hx hb dL_act_110 (by decide) ?_
  refine lv_iload_n hx hb dL_act_111 rfl (lv_at hl 2 rfl) ?_
  refine lv_bipush (v := 8) hx hb dL_act_112 (by decide) ?_
  refine lv_idiv hx hb dL_act_114 (by decide) ?_
  refine lv_iconst (v := 4) hx hb dL_act_115 (by decide) ?_
  refine lv_irem hx hb dL_act_116 (by decide) ?_
  refine cl_i (va_runS (As := [.ref (ad 0 0 0), .int (10 : Int32), .int (y - y / (2 : Int32) * (2 : Int32)), .int ((y / (2 : Int32)) - (y / (2 : Int32)) / (4 : Int32) * (4 : Int32)), .int ((y / (8 : Int32)) - (y / (8 : Int32)) / (4 : Int32) * (4 : Int32))]) (rest := []) ⟨hx, hb, hml, hown, hts⟩ (cca l hlt D cy ad (B := B) (V := V) (V' := (w_L_call V (10 : Int32) (y - y / (2 : Int32) * (2 : Int32)) ((y / (2 : Int32)) - (y / (2 : Int32)) / (4 : Int32) * (4 : Int32)) ((y / (8 : Int32)) - (y / (8 : Int32)) / (4 : Int32) * (4 : Int32)))) hB (what := (10 : Int32)) (a := (y - y / (2 : Int32) * (2 : Int32))) (b := ((y / (2 : Int32)) - (y / (2 : Int32)) / (4 : Int32) * (4 : Int32))) (c := ((y / (8 : Int32)) - (y / (8 : Int32)) / (4 : Int32) * (4 : Int32))) (r := (r_L_call V (10 : Int32) (y - y / (2 : Int32) * (2 : Int32)) ((y / (2 : Int32)) - (y / (2 : Int32)) / (4 : Int32) * (4 : Int32)) ((y / (8 : Int32)) - (y / (8 : Int32)) / (4 : Int32) * (4 : Int32)))) rfl rfl (n15 (by decide)) H.size) (va_cwS 5 hts gL_act_L_call rfl rfl rfl (by decide +kernel) ⟨Nat.le_of_ble_eq_true rfl, Nat.le_of_ble_eq_true rfl⟩) ⟨blU, preU hP hD (pmI _) hK hE hS hA⟩ rfl rfl hl.1 rfl (lv_room (Nat.le_of_ble_eq_true rfl)) dL_act_117 ⟨Nat.le_of_ble_eq_true rfl, Nat.le_of_ble_eq_true rfl⟩) hP hD (pmI _) hS hA (fun H locs hP hD hS => ?_)
  have hP : va_P D vwCl (wB cy ad (w_L_call V (10 : Int32) (y - y / (2 : Int32) * (2 : Int32)) ((y / (2 : Int32)) - (y / (2 : Int32)) / (4 : Int32) * (4 : Int32)) ((y / (8 : Int32)) - (y / (8 : Int32)) / (4 : Int32) * (4 : Int32)))) H := vP_perm hP (pmI _).symm
  have hD : va_D A (wB cy ad (w_L_call V (10 : Int32) (y - y / (2 : Int32) * (2 : Int32)) ((y / (2 : Int32)) - (y / (2 : Int32)) / (4 : Int32) * (4 : Int32)) ((y / (8 : Int32)) - (y / (8 : Int32)) / (4 : Int32) * (4 : Int32)))) := vD_perm hD (pmI _).symm
  refine W.widen (k := 15) (n := 90) (Nat.le_of_ble_eq_true rfl) (Nat.le_of_ble_eq_true rfl) ?_
  exact hret _ H locs _ ls rfl hP hD hS dL_act_120

set_option maxHeartbeats 4000000 in
set_option maxRecDepth 100000 in
theorem act_3 {B : Nat} {V : BV} (hB : BInv B V) (hb30 : B + 300 < 2 ^ 30) {x y : Int32} (h16 : (x - x / (16 : Int32) * (16 : Int32)) = 3) : ActOK B V x y := by
  refine ⟨(r_L_call V (12 : Int32) (0 : Int32) (0 : Int32) (0 : Int32)), (w_L_call V (12 : Int32) (0 : Int32) (0 : Int32) (0 : Int32)), (by rw [wc_12]; exact hB.undo.mono (by omega)), fun l hlt D cy ad sz => ?_⟩
  refine st_i (ty := .int) (cc := cL_act) (maxL := 7) (by decide) rfl rfl (Nat.le_of_ble_eq_true rfl) ?_
  intro pp e s m below meth c A Q ls hx hb hts hown hml hlocks hsz hP hK hD hE hA hl hret
  subst hsz
  have hown : s.vm.findClass RL = some m.cls := hown
  have hl : lv_has ls 7 [(0, .ref (ad 0 0 0)), (1, .int x), (2, .int y)] := hl
  obtain ⟨H, hH⟩ : ∃ H, H = s.heap := ⟨_, rfl⟩
  rw [← hH] at hP ⊢
  have hS : va_S A s.heap H [] := by rw [hH]; exact va_S.rf
  obtain ⟨locs, hlo⟩ : ∃ locs : List Loc, locs = [] := ⟨_, rfl⟩
  rw [← hlo] at hS ⊢
  refine lv_iload_n hx hb dL_act_0 rfl (lv_at hl 1 rfl) ?_
  refine lv_bipush (v := 16) hx hb dL_act_1 (by decide) ?_
  refine lv_irem hx hb dL_act_3 (by decide) ?_
  refine lv_tableIn (tgt := 121) (off := 117) hx hb dL_act_4 (by rw [h16]; decide) (by rw [h16]; decide) (by rw [h16]; rfl) (by decide) ?_
  refine lv_aload_n hx hb dL_act_121 rfl (lv_at hl 0 rfl) ?_
  refine lv_bipush (v := 12) hx hb dL_act_122 (by decide) ?_
  refine lv_iconst (v := 0) hx hb dL_act_124 (by decide) ?_
  refine lv_iconst (v := 0) hx hb dL_act_125 (by decide) ?_
  refine lv_iconst (v := 0) hx hb dL_act_126 (by decide) ?_
  refine cl_i (va_runS (As := [.ref (ad 0 0 0), .int (12 : Int32), .int (0 : Int32), .int (0 : Int32), .int (0 : Int32)]) (rest := []) ⟨hx, hb, hml, hown, hts⟩ (cca l hlt D cy ad (B := B) (V := V) (V' := (w_L_call V (12 : Int32) (0 : Int32) (0 : Int32) (0 : Int32))) hB (what := (12 : Int32)) (a := (0 : Int32)) (b := (0 : Int32)) (c := (0 : Int32)) (r := (r_L_call V (12 : Int32) (0 : Int32) (0 : Int32) (0 : Int32))) rfl rfl (n15 (by decide)) H.size) (va_cwS 5 hts gL_act_L_call rfl rfl rfl (by decide +kernel) ⟨Nat.le_of_ble_eq_true rfl, Nat.le_of_ble_eq_true rfl⟩) ⟨blU, preU hP hD (pmI _) hK hE hS hA⟩ rfl rfl hl.1 rfl (lv_room (Nat.le_of_ble_eq_true rfl)) dL_act_127 ⟨Nat.le_of_ble_eq_true rfl, Nat.le_of_ble_eq_true rfl⟩) hP hD (pmI _) hS hA (fun H locs hP hD hS => ?_)
  have hP : va_P D vwCl (wB cy ad (w_L_call V (12 : Int32) (0 : Int32) (0 : Int32) (0 : Int32))) H := vP_perm hP (pmI _).symm
  have hD : va_D A (wB cy ad (w_L_call V (12 : Int32) (0 : Int32) (0 : Int32) (0 : Int32))) := vD_perm hD (pmI _).symm
  refine W.widen (k := 15) (n := 90) (Nat.le_of_ble_eq_true rfl) (Nat.le_of_ble_eq_true rfl) ?_
  exact hret _ H locs _ ls rfl hP hD hS dL_act_130

set_option maxHeartbeats 4000000 in
set_option maxRecDepth 100000 in
theorem act_4 {B : Nat} {V : BV} (hB : BInv B V) (hb30 : B + 300 < 2 ^ 30) {x y : Int32} (h16 : (x - x / (16 : Int32) * (16 : Int32)) = 4) : ActOK B V x y := by
  refine ⟨(r_L_call V (17 : Int32) (y - y / (2 : Int32) * (2 : Int32)) (0 : Int32) (0 : Int32)), (w_L_call V (17 : Int32) (y - y / (2 : Int32) * (2 : Int32)) (0 : Int32) (0 : Int32)), (by rw [wc_17]; exact (hB.save _).mono (by omega)), fun l hlt D cy ad sz => ?_⟩
  refine st_i (ty := .int) (cc := cL_act) (maxL := 7) (by decide) rfl rfl (Nat.le_of_ble_eq_true rfl) ?_
  intro pp e s m below meth c A Q ls hx hb hts hown hml hlocks hsz hP hK hD hE hA hl hret
  subst hsz
  have hown : s.vm.findClass RL = some m.cls := hown
  have hl : lv_has ls 7 [(0, .ref (ad 0 0 0)), (1, .int x), (2, .int y)] := hl
  obtain ⟨H, hH⟩ : ∃ H, H = s.heap := ⟨_, rfl⟩
  rw [← hH] at hP ⊢
  have hS : va_S A s.heap H [] := by rw [hH]; exact va_S.rf
  obtain ⟨locs, hlo⟩ : ∃ locs : List Loc, locs = [] := ⟨_, rfl⟩
  rw [← hlo] at hS ⊢
  refine lv_iload_n hx hb dL_act_0 rfl (lv_at hl 1 rfl) ?_
  refine lv_bipush (v := 16) hx hb dL_act_1 (by decide) ?_
  refine lv_irem hx hb dL_act_3 (by decide) ?_
  refine lv_tableIn (tgt := 131) (off := 127) hx hb dL_act_4 (by rw [h16]; decide) (by rw [h16]; decide) (by rw [h16]; rfl) (by decide) ?_
  refine lv_aload_n hx hb dL_act_131 rfl (lv_at hl 0 rfl) ?_
  refine lv_bipush (v := 17) hx hb dL_act_132 (by decide) ?_
  refine lv_iload_n hx hb dL_act_134 rfl (lv_at hl 2 rfl) ?_
  refine lv_iconst (v := 2) hx hb dL_act_135 (by decide) ?_
  refine lv_irem hx hb dL_act_136 (by decide) ?_
  refine lv_iconst (v := 0) hx hb dL_act_137 (by decide) ?_
  refine lv_iconst (v := 0) hx hb dL_act_138 (by decide) ?_
  refine cl_i (va_runS (As := [.ref (ad 0 0 0), .int (17 : Int32), .int (y - y / (2 : Int32) * (2 : Int32)), .int (0 : Int32), .int (0 : Int32)]) (rest := []) ⟨hx, hb, hml, hown, hts⟩ (cca l hlt D cy ad (B := B) (V := V) (V' := (w_L_call V (17 : Int32) (y - y / (2 : Int32) * (2 : Int32)) (0 : Int32) (0 : Int32))) hB (what := (17 : Int32)) (a := (y - y / (2 : Int32) * (2 : Int32))) (b := (0 : Int32)) (c := (0 : Int32)) (r := (r_L_call V (17 : Int32) (y - y / (2 : Int32) * (2 : Int32)) (0 : Int32) (0 : Int32))) rfl rfl (n15 (by decide)) H.size) (va_cwS 5 hts gL_act_L_call rfl rfl rfl (by decide +kernel) ⟨Nat.le_of_ble_eq_true rfl, Nat.le_of_ble_eq_true rfl⟩) ⟨blU, preU hP hD (pmI _) hK hE hS hA⟩ rfl rfl hl.1 rfl (lv_room (Nat.le_of_ble_eq_true rfl)) dL_act_139 ⟨Nat.le_of_ble_eq_true rfl, Nat.le_of_ble_eq_true rfl⟩) hP hD (pmI _) hS hA (fun H locs hP hD hS => ?_)
  have hP : va_P D vwCl (wB cy ad (w_L_call V (17 : Int32) (y - y / (2 : Int32) * (2 : Int32)) (0 : Int32) (0 : Int32))) H := vP_perm hP (pmI _).symm
  have hD : va_D A (wB cy ad (w_L_call V (17 : Int32) (y - y / (2 : Int32) * (2 : Int32)) (0 : Int32) (0 : Int32))) := vD_perm hD (pmI _).symm
  refine W.widen (k := 15) (n := 90) (Nat.le_of_ble_eq_true rfl) (Nat.le_of_ble_eq_true rfl) ?_
  exact hret _ H locs _ ls rfl hP hD hS dL_act_142

set_option maxHeartbeats 4000000 in
set_option maxRecDepth 100000 in
theorem act_5 {B : Nat} {V : BV} (hB : BInv B V) (hb30 : B + 300 < 2 ^ 30) {x y : Int32} (h16 : (x - x / (16 : Int32) * (16 : Int32)) = 5) : ActOK B V x y := by
  refine ⟨(r_L_call V (18 : Int32) (y - y / (2 : Int32) * (2 : Int32)) (0 : Int32) (0 : Int32)), (w_L_call V (18 : Int32) (y - y / (2 : Int32) * (2 : Int32)) (0 : Int32) (0 : Int32)), (by rw [wc_18]; exact (hB.restore _).mono (by omega)), fun l hlt D cy ad sz => ?_⟩
  refine st_i (ty := .int) (cc := cL_act) (maxL := 7) (by decide) rfl rfl (Nat.le_of_ble_eq_true rfl) ?_
  intro pp e s m below meth c A Q ls hx hb hts hown hml hlocks hsz hP hK hD hE hA hl hret
  subst hsz
  have hown : s.vm.findClass RL = some m.cls := hown
  have hl : lv_has ls 7 [(0, .ref (ad 0 0 0)), (1, .int x), (2, .int y)] := hl
  obtain ⟨H, hH⟩ : ∃ H, H = s.heap := ⟨_, rfl⟩
  rw [← hH] at hP ⊢
  have hS : va_S A s.heap H [] := by rw [hH]; exact va_S.rf
  obtain ⟨locs, hlo⟩ : ∃ locs : List Loc, locs = [] := ⟨_, rfl⟩
  rw [← hlo] at hS ⊢
  refine lv_iload_n hx hb dL_act_0 rfl (lv_at hl 1 rfl) ?_
  refine lv_bipush (v := 16) hx hb dL_act_1 (by decide) ?_
  refine lv_irem hx hb dL_act_3 (by decide) ?_
  refine lv_tableIn (tgt := 143) (off := 139) hx hb dL_act_4 (by rw [h16]; decide) (by rw [h16]; decide) (by rw [h16]; rfl) (by decide) ?_
  refine lv_aload_n hx hb dL_act_143 rfl (lv_at hl 0 rfl) ?_
  refine lv_bipush (v := 18) hx hb dL_act_144 (by decide) ?_
  refine lv_iload_n hx hb dL_act_146 rfl (lv_at hl 2 rfl) ?_
  refine lv_iconst (v := 2) hx hb dL_act_147 (by decide) ?_
  refine lv_irem hx hb dL_act_148 (by decide) ?_
  refine lv_iconst (v := 0) hx hb dL_act_149 (by decide) ?_
  refine lv_iconst (v := 0) hx hb dL_act_150 (by decide) ?_
  refine cl_i (va_runS (As := [.ref (ad 0 0 0), .int (18 : Int32), .int (y - y / (2 : Int32) * (2 : Int32)), .int (0 : Int32), .int (0 : Int32)]) (rest := []) ⟨hx, hb, hml, hown, hts⟩ (cca l hlt D cy ad (B := B) (V := V) (V' := (w_L_call V (18 : Int32) (y - y / (2 : Int32) * (2 : Int32)) (0 : Int32) (0 : Int32))) hB (what := (18 : Int32)) (a := (y - y / (2 : Int32) * (2 : Int32))) (b := (0 : Int32)) (c := (0 : Int32)) (r := (r_L_call V (18 : Int32) (y - y / (2 : Int32) * (2 : Int32)) (0 : Int32) (0 : Int32))) rfl rfl (n15 (by decide)) H.size) (va_cwS 5 hts gL_act_L_call rfl rfl rfl (by decide +kernel) ⟨Nat.le_of_ble_eq_true rfl, Nat.le_of_ble_eq_true rfl⟩) ⟨blU, preU hP hD (pmI _) hK hE hS hA⟩ rfl rfl hl.1 rfl (lv_room (Nat.le_of_ble_eq_true rfl)) dL_act_151 ⟨Nat.le_of_ble_eq_true rfl, Nat.le_of_ble_eq_true rfl⟩) hP hD (pmI _) hS hA (fun H locs hP hD hS => ?_)
  have hP : va_P D vwCl (wB cy ad (w_L_call V (18 : Int32) (y - y / (2 : Int32) * (2 : Int32)) (0 : Int32) (0 : Int32))) H := vP_perm hP (pmI _).symm
  have hD : va_D A (wB cy ad (w_L_call V (18 : Int32) (y - y / (2 : Int32) * (2 : Int32)) (0 : Int32) (0 : Int32))) := vD_perm hD (pmI _).symm
  refine W.widen (k := 15) (n := 90) (Nat.le_of_ble_eq_true rfl) (Nat.le_of_ble_eq_true rfl) ?_
  exact hret _ H locs _ ls rfl hP hD hS dL_act_154

set_option maxHeartbeats 4000000 in
set_option maxRecDepth 100000 in
theorem act_6 {B : Nat} {V : BV} (hB : BInv B V) (hb30 : B + 300 < 2 ^ 30) {x y : Int32} (h16 : (x - x / (16 : Int32) * (16 : Int32)) = 6) : ActOK B V x y := by
  refine ⟨(r_L_call V (11 : Int32) (0 : Int32) (0 : Int32) (0 : Int32)), (w_L_call V (11 : Int32) (0 : Int32) (0 : Int32) (0 : Int32)), (by rw [wc_11]; exact hB.play hb30), fun l hlt D cy ad sz => ?_⟩
  refine st_i (ty := .int) (cc := cL_act) (maxL := 7) (by decide) rfl rfl (Nat.le_of_ble_eq_true rfl) ?_
  intro pp e s m below meth c A Q ls hx hb hts hown hml hlocks hsz hP hK hD hE hA hl hret
  subst hsz
  have hown : s.vm.findClass RL = some m.cls := hown
  have hl : lv_has ls 7 [(0, .ref (ad 0 0 0)), (1, .int x), (2, .int y)] := hl
  obtain ⟨H, hH⟩ : ∃ H, H = s.heap := ⟨_, rfl⟩
  rw [← hH] at hP ⊢
  have hS : va_S A s.heap H [] := by rw [hH]; exact va_S.rf
  obtain ⟨locs, hlo⟩ : ∃ locs : List Loc, locs = [] := ⟨_, rfl⟩
  rw [← hlo] at hS ⊢
  refine lv_iload_n hx hb dL_act_0 rfl (lv_at hl 1 rfl) ?_
  refine lv_bipush (v := 16) hx hb dL_act_1 (by decide) ?_
  refine lv_irem hx hb dL_act_3 (by decide) ?_
  refine lv_tableIn (tgt := 155) (off := 151) hx hb dL_act_4 (by rw [h16]; decide) (by rw [h16]; decide) (by rw [h16]; rfl) (by decide) ?_
  refine lv_aload_n hx hb dL_act_155 rfl (lv_at hl 0 rfl) ?_
  refine lv_bipush (v := 11) hx hb dL_act_156 (by decide) ?_
  refine lv_iconst (v := 0) hx hb dL_act_158 (by decide) ?_
  refine lv_iconst (v := 0) hx hb dL_act_159 (by decide) ?_
  refine lv_iconst (v := 0) hx hb dL_act_160 (by decide) ?_
  refine cl_i (va_runS (As := [.ref (ad 0 0 0), .int (11 : Int32), .int (0 : Int32), .int (0 : Int32), .int (0 : Int32)]) (rest := []) ⟨hx, hb, hml, hown, hts⟩ (cca l hlt D cy ad (B := B) (V := V) (V' := (w_L_call V (11 : Int32) (0 : Int32) (0 : Int32) (0 : Int32))) hB (what := (11 : Int32)) (a := (0 : Int32)) (b := (0 : Int32)) (c := (0 : Int32)) (r := (r_L_call V (11 : Int32) (0 : Int32) (0 : Int32) (0 : Int32))) rfl rfl (n15 (by decide)) H.size) (va_cwS 5 hts gL_act_L_call rfl rfl rfl (by decide +kernel) ⟨Nat.le_of_ble_eq_true rfl, Nat.le_of_ble_eq_true rfl⟩) ⟨blU, preU hP hD (pmI _) hK hE hS hA⟩ rfl rfl hl.1 rfl (lv_room (Nat.le_of_ble_eq_true rfl)) dL_act_161 ⟨Nat.le_of_ble_eq_true rfl, Nat.le_of_ble_eq_true rfl⟩) hP hD (pmI _) hS hA (fun H locs hP hD hS => ?_)
  have hP : va_P D vwCl (wB cy ad (w_L_call V (11 : Int32) (0 : Int32) (0 : Int32) (0 : Int32))) H := vP_perm hP (pmI _).symm
  have hD : va_D A (wB cy ad (w_L_call V (11 : Int32) (0 : Int32) (0 : Int32) (0 : Int32))) := vD_perm hD (pmI _).symm
  refine W.widen (k := 15) (n := 90) (Nat.le_of_ble_eq_true rfl) (Nat.le_of_ble_eq_true rfl) ?_
  exact hret _ H locs _ ls rfl hP hD hS dL_act_164

set_option maxHeartbeats 4000000 in
set_option maxRecDepth 100000 in
theorem act_7 {B : Nat} {V : BV} (hB : BInv B V) (hb30 : B + 300 < 2 ^ 30) {x y : Int32} (h16 : (x - x / (16 : Int32) * (16 : Int32)) = 7) : ActOK B V x y := by
  refine ⟨(r_L_call V (11 : Int32) (0 : Int32) (0 : Int32) (0 : Int32)), (w_L_call V (11 : Int32) (0 : Int32) (0 : Int32) (0 : Int32)), (by rw [wc_11]; exact hB.play hb30), fun l hlt D cy ad sz => ?_⟩
  refine st_i (ty := .int) (cc := cL_act) (maxL := 7) (by decide) rfl rfl (Nat.le_of_ble_eq_true rfl) ?_
  intro pp e s m below meth c A Q ls hx hb hts hown hml hlocks hsz hP hK hD hE hA hl hret
  subst hsz
  have hown : s.vm.findClass RL = some m.cls := hown
  have hl : lv_has ls 7 [(0, .ref (ad 0 0 0)), (1, .int x), (2, .int y)] := hl
  obtain ⟨H, hH⟩ : ∃ H, H = s.heap := ⟨_, rfl⟩
  rw [← hH] at hP ⊢
  have hS : va_S A s.heap H [] := by rw [hH]; exact va_S.rf
  obtain ⟨locs, hlo⟩ : ∃ locs : List Loc, locs = [] := ⟨_, rfl⟩
  rw [← hlo] at hS ⊢
  refine lv_iload_n hx hb dL_act_0 rfl (lv_at hl 1 rfl) ?_
  refine lv_bipush (v := 16) hx hb dL_act_1 (by decide) ?_
  refine lv_irem hx hb dL_act_3 (by decide) ?_
  refine lv_tableIn (tgt := 155) (off := 151) hx hb dL_act_4 (by rw [h16]; decide) (by rw [h16]; decide) (by rw [h16]; rfl) (by decide) ?_
  refine lv_aload_n hx hb dL_act_155 rfl (lv_at hl 0 rfl) ?_
  refine lv_bipush (v := 11) hx hb dL_act_156 (by decide) ?_
  refine lv_iconst (v := 0) hx hb dL_act_158 (by decide) ?_
  refine lv_iconst (v := 0) hx hb dL_act_159 (by decide) ?_
  refine lv_iconst (v := 0) hx hb dL_act_160 (by decide) ?_
  refine cl_i (va_runS (As := [.ref (ad 0 0 0), .int (11 : Int32), .int (0 : Int32), .int (0 : Int32), .int (0 : Int32)]) (rest := []) ⟨hx, hb, hml, hown, hts⟩ (cca l hlt D cy ad (B := B) (V := V) (V' := (w_L_call V (11 : Int32) (0 : Int32) (0 : Int32) (0 : Int32))) hB (what := (11 : Int32)) (a := (0 : Int32)) (b := (0 : Int32)) (c := (0 : Int32)) (r := (r_L_call V (11 : Int32) (0 : Int32) (0 : Int32) (0 : Int32))) rfl rfl (n15 (by decide)) H.size) (va_cwS 5 hts gL_act_L_call rfl rfl rfl (by decide +kernel) ⟨Nat.le_of_ble_eq_true rfl, Nat.le_of_ble_eq_true rfl⟩) ⟨blU, preU hP hD (pmI _) hK hE hS hA⟩ rfl rfl hl.1 rfl (lv_room (Nat.le_of_ble_eq_true rfl)) dL_act_161 ⟨Nat.le_of_ble_eq_true rfl, Nat.le_of_ble_eq_true rfl⟩) hP hD (pmI _) hS hA (fun H locs hP hD hS => ?_)
  have hP : va_P D vwCl (wB cy ad (w_L_call V (11 : Int32) (0 : Int32) (0 : Int32) (0 : Int32))) H := vP_perm hP (pmI _).symm
  have hD : va_D A (wB cy ad (w_L_call V (11 : Int32) (0 : Int32) (0 : Int32) (0 : Int32))) := vD_perm hD (pmI _).symm
  refine W.widen (k := 15) (n := 90) (Nat.le_of_ble_eq_true rfl) (Nat.le_of_ble_eq_true rfl) ?_
  exact hret _ H locs _ ls rfl hP hD hS dL_act_164

set_option maxHeartbeats 4000000 in
set_option maxRecDepth 100000 in
theorem act_8 {B : Nat} {V : BV} (hB : BInv B V) (hb30 : B + 300 < 2 ^ 30) {x y : Int32} (h16 : (x - x / (16 : Int32) * (16 : Int32)) = 8) : ActOK B V x y := by
  obtain ⟨V0, hV0⟩ : ∃ V0, (if (y - y / (3 : Int32) * (3 : Int32)) = 0 then w_X5_clearText V else V) = V0 := ⟨_, rfl⟩
  have hB0 : BInv B V0 := by
    rw [← hV0]
    split
    · exact hB.clear
    · exact hB
  obtain ⟨c3, hc3⟩ : ∃ c3 : Int32, (if ((y / (128 : Int32)) - (y / (128 : Int32)) / (2 : Int32) * (2 : Int32)) = 0 then (43 : Int32) else (45 : Int32)) = c3 := ⟨_, rfl⟩
  obtain ⟨V1, hV1⟩ : ∃ V9, w_L_call V0 (0 : Int32) (40 : Int32) (0 : Int32) (0 : Int32) = V9 := ⟨_, rfl⟩
  have hB1 : BInv B V1 := by rw [← hV1, wc_0]; exact hB0.append _
  obtain ⟨V2, hV2⟩ : ∃ V9, w_L_call V1 (0 : Int32) ((97 : Int32) + ((y / (4 : Int32)) - (y / (4 : Int32)) / (26 : Int32) * (26 : Int32))) (0 : Int32) (0 : Int32) = V9 := ⟨_, rfl⟩
  have hB2 : BInv B V2 := by rw [← hV2, wc_0]; exact hB1.append _
  obtain ⟨V3, hV3⟩ : ∃ V9, w_L_call V2 (0 : Int32) c3 (0 : Int32) (0 : Int32) = V9 := ⟨_, rfl⟩
  have hB3 : BInv B V3 := by rw [← hV3, wc_0]; exact hB2.append _
  obtain ⟨V4, hV4⟩ : ∃ V9, w_L_call V3 (0 : Int32) (41 : Int32) (0 : Int32) (0 : Int32) = V9 := ⟨_, rfl⟩
  have hB4 : BInv B V4 := by rw [← hV4, wc_0]; exact hB3.append _
  obtain ⟨V5, hV5⟩ : ∃ V9, w_L_call V4 (0 : Int32) ((50 : Int32) + ((y / (256 : Int32)) - (y / (256 : Int32)) / (8 : Int32) * (8 : Int32))) (0 : Int32) (0 : Int32) = V9 := ⟨_, rfl⟩
  have hB5 : BInv B V5 := by rw [← hV5, wc_0]; exact hB4.append _
  refine ⟨(((((r_L_call V0 (0 : Int32) (40 : Int32) (0 : Int32) (0 : Int32)) + (r_L_call V1 (0 : Int32) ((97 : Int32) + ((y / (4 : Int32)) - (y / (4 : Int32)) / (26 : Int32) * (26 : Int32))) (0 : Int32) (0 : Int32))) + (r_L_call V2 (0 : Int32) c3 (0 : Int32) (0 : Int32))) + (r_L_call V3 (0 : Int32) (41 : Int32) (0 : Int32) (0 : Int32))) + (r_L_call V4 (0 : Int32) ((50 : Int32) + ((y / (256 : Int32)) - (y / (256 : Int32)) / (8 : Int32) * (8 : Int32))) (0 : Int32) (0 : Int32))), V5, (hB5.mono (by omega)), fun l hlt D cy ad sz => ?_⟩
  refine st_i (ty := .int) (cc := cL_act) (maxL := 7) (by decide) rfl rfl (Nat.le_of_ble_eq_true rfl) ?_
  intro pp e s m below meth c A Q ls hx hb hts hown hml hlocks hsz hP hK hD hE hA hl hret
  subst hsz
  have hown : s.vm.findClass RL = some m.cls := hown
  have hl : lv_has ls 7 [(0, .ref (ad 0 0 0)), (1, .int x), (2, .int y)] := hl
  obtain ⟨H, hH⟩ : ∃ H, H = s.heap := ⟨_, rfl⟩
  rw [← hH] at hP ⊢
  have hS : va_S A s.heap H [] := by rw [hH]; exact va_S.rf
  obtain ⟨locs, hlo⟩ : ∃ locs : List Loc, locs = [] := ⟨_, rfl⟩
  rw [← hlo] at hS ⊢
  refine lv_iload_n hx hb dL_act_0 rfl (lv_at hl 1 rfl) ?_
  refine lv_bipush (v := 16) hx hb dL_act_1 (by decide) ?_
  refine lv_irem hx hb dL_act_3 (by decide) ?_
  refine lv_tableIn (tgt := 165) (off := 161) hx hb dL_act_4 (by rw [h16]; decide) (by rw [h16]; decide) (by rw [h16]; rfl) (by decide) ?_
  refine lv_iload_n hx hb dL_act_165 rfl (lv_at hl 2 rfl) ?_
  refine lv_iconst (v := 3) hx hb dL_act_166 (by decide) ?_
  refine lv_irem hx hb dL_act_167 (by decide) ?_
  have tl : ∀ (H : Heap) (locs : List Loc), va_P D vwCl (wB cy ad V0) H → va_D A (wB cy ad V0) → va_S A s.heap H locs → ∀ ls : Array Slot, lv_has ls 7 [(0, .ref (ad 0 0 0)), (1, .int x), (2, .int y)] → W pp l e rL_act s m ([.ref (ad 0 0 0), .int x, .int y] : List Value).toArray below meth c H locs 0 0 Q (F0 m 176 ls []) := by
    intro H locs hP hD hS ls hl
    refine lv_aload_n hx hb dL_act_176 rfl (lv_at hl 0 rfl) ?_
    refine lv_iconst (v := 0) hx hb dL_act_177 (by decide) ?_
    refine lv_bipush (v := 40) hx hb dL_act_178 (by decide) ?_
    refine lv_iconst (v := 0) hx hb dL_act_180 (by decide) ?_
    refine lv_iconst (v := 0) hx hb dL_act_181 (by decide) ?_
    refine cl_i (va_runS (As := [.ref (ad 0 0 0), .int (0 : Int32), .int (40 : Int32), .int (0 : Int32), .int (0 : Int32)]) (rest := []) ⟨hx, hb, hml, hown, hts⟩ (cca l hlt D cy ad (B := B) (V := V0) (V' := V1) hB0 (what := (0 : Int32)) (a := (40 : Int32)) (b := (0 : Int32)) (c := (0 : Int32)) (r := (r_L_call V0 (0 : Int32) (40 : Int32) (0 : Int32) (0 : Int32))) rfl hV1 (n15 (by decide)) H.size) (va_cwS 5 hts gL_act_L_call rfl rfl rfl (by decide +kernel) ⟨Nat.le_of_ble_eq_true rfl, Nat.le_of_ble_eq_true rfl⟩) ⟨blU, preU hP hD (pmI _) hK hE hS hA⟩ rfl rfl hl.1 rfl (lv_room (Nat.le_of_ble_eq_true rfl)) dL_act_182 ⟨Nat.le_of_ble_eq_true rfl, Nat.le_of_ble_eq_true rfl⟩) hP hD (pmI _) hS hA (fun H locs hP hD hS => ?_)
    have hP : va_P D vwCl (wB cy ad V1) H := vP_perm hP (pmI _).symm
    have hD : va_D A (wB cy ad V1) := vD_perm hD (pmI _).symm
    refine lv_istore_n (lv' := [(3, .int (r_L_call V0 (0 : Int32) (40 : Int32) (0 : Int32) (0 : Int32))), (0, .ref (ad 0 0 0)), (1, .int x), (2, .int y)]) hx hb dL_act_185 rfl hl (by decide) rfl (fun ls hl => ?_)
    refine lv_aload_n hx hb dL_act_186 rfl (lv_at hl 1 rfl) ?_
    refine lv_iconst (v := 0) hx hb dL_act_187 (by decide) ?_
    refine lv_bipush (v := 97) hx hb dL_act_188 (by decide) ?_
    refine lv_iload_n hx hb dL_act_190 rfl (lv_at hl 3 rfl) ?_
    refine lv_iconst (v := 4) hx hb dL_act_191 (by decide) ?_
    refine lv_idiv hx hb dL_act_192 (by decide) ?_
    refine lv_bipush (v := 26) hx hb dL_act_193 (by decide) ?_
    refine lv_irem hx hb dL_act_195 (by decide) ?_
    refine lv_iadd hx hb dL_act_196 ?_
    refine lv_iconst (v := 0) hx hb dL_act_197 (by decide) ?_
    refine lv_iconst (v := 0) hx hb dL_act_198 (by decide) ?_
    refine cl_i (va_runS (As := [.ref (ad 0 0 0), .int (0 : Int32), .int ((97 : Int32) + ((y / (4 : Int32)) - (y / (4 : Int32)) / (26 : Int32) * (26 : Int32))), .int (0 : Int32), .int (0 : Int32)]) (rest := []) ⟨hx, hb, hml, hown, hts⟩ (cca l hlt D cy ad (B := B) (V := V1) (V' := V2) hB1 (what := (0 : Int32)) (a := ((97 : Int32) + ((y / (4 : Int32)) - (y / (4 : Int32)) / (26 : Int32) * (26 : Int32)))) (b := (0 : Int32)) (c := (0 : Int32)) (r := (r_L_call V1 (0 : Int32) ((97 : Int32) + ((y / (4 : Int32)) - (y / (4 : Int32)) / (26 : Int32) * (26 : Int32))) (0 : Int32) (0 : Int32))) rfl hV2 (n15 (by decide)) H.size) (va_cwS 5 hts gL_act_L_call rfl rfl rfl (by decide +kernel) ⟨Nat.le_of_ble_eq_true rfl, Nat.le_of_ble_eq_true rfl⟩) ⟨blU, preU hP hD (pmI _) hK hE hS hA⟩ rfl rfl hl.1 rfl (lv_room (Nat.le_of_ble_eq_true rfl)) dL_act_199 ⟨Nat.le_of_ble_eq_true rfl, Nat.le_of_ble_eq_true rfl⟩) hP hD (pmI _) hS hA (fun H locs hP hD hS => ?_)
    have hP : va_P D vwCl (wB cy ad V2) H := vP_perm hP (pmI _).symm
    have hD : va_D A (wB cy ad V2) := vD_perm hD (pmI _).symm
    refine lv_istore (lv' := [(4, .int (r_L_call V1 (0 : Int32) ((97 : Int32) + ((y / (4 : Int32)) - (y / (4 : Int32)) / (26 : Int32) * (26 : Int32))) (0 : Int32) (0 : Int32))), (3, .int (r_L_call V0 (0 : Int32) (40 : Int32) (0 : Int32) (0 : Int32))), (0, .ref (ad 0 0 0)), (1, .int x), (2, .int y)]) hx hb dL_act_202 hl (by decide) rfl (fun ls hl => ?_)
    refine lv_aload_n hx hb dL_act_204 rfl (lv_at hl 2 rfl) ?_
    refine lv_iconst (v := 0) hx hb dL_act_205 (by decide) ?_
    refine lv_iload_n hx hb dL_act_206 rfl (lv_at hl 4 rfl) ?_
    refine lv_sipush (v := 128) hx hb dL_act_207 (by decide) ?_
    refine lv_idiv hx hb dL_act_210 (by decide) ?_
    refine lv_iconst (v := 2) hx hb dL_act_211 (by decide) ?_
    refine lv_irem hx hb dL_act_212 (by decide) ?_
    have tl2 : ∀ (H : Heap) (locs : List Loc), va_P D vwCl (wB cy ad V2) H → va_D A (wB cy ad V2) → va_S A s.heap H locs → ∀ ls : Array Slot, lv_has ls 7 [(4, .int (r_L_call V1 (0 : Int32) ((97 : Int32) + ((y / (4 : Int32)) - (y / (4 : Int32)) / (26 : Int32) * (26 : Int32))) (0 : Int32) (0 : Int32))), (3, .int (r_L_call V0 (0 : Int32) (40 : Int32) (0 : Int32) (0 : Int32))), (0, .ref (ad 0 0 0)), (1, .int x), (2, .int y)] → W pp l e rL_act s m ([.ref (ad 0 0 0), .int x, .int y] : List Value).toArray below meth c H locs 6 36 Q (F0 m 223 ls [.int c3, .int (0 : Int32), .ref (ad 0 0 0)]) := by
      intro H locs hP hD hS ls hl
      refine lv_iconst (v := 0) hx hb dL_act_223 (by decide) ?_
      refine lv_iconst (v := 0) hx hb dL_act_224 (by decide) ?_
      refine cl_i (va_runS (As := [.ref (ad 0 0 0), .int (0 : Int32), .int c3, .int (0 : Int32), .int (0 : Int32)]) (rest := []) ⟨hx, hb, hml, hown, hts⟩ (cca l hlt D cy ad (B := B) (V := V2) (V' := V3) hB2 (what := (0 : Int32)) (a := c3) (b := (0 : Int32)) (c := (0 : Int32)) (r := (r_L_call V2 (0 : Int32) c3 (0 : Int32) (0 : Int32))) rfl hV3 (n15 (by decide)) H.size) (va_cwS 5 hts gL_act_L_call rfl rfl rfl (by decide +kernel) ⟨Nat.le_of_ble_eq_true rfl, Nat.le_of_ble_eq_true rfl⟩) ⟨blU, preU hP hD (pmI _) hK hE hS hA⟩ rfl rfl hl.1 rfl (lv_room (Nat.le_of_ble_eq_true rfl)) dL_act_225 ⟨Nat.le_of_ble_eq_true rfl, Nat.le_of_ble_eq_true rfl⟩) hP hD (pmI _) hS hA (fun H locs hP hD hS => ?_)
      have hP : va_P D vwCl (wB cy ad V3) H := vP_perm hP (pmI _).symm
      have hD : va_D A (wB cy ad V3) := vD_perm hD (pmI _).symm
      refine lv_istore (lv' := [(5, .int (r_L_call V2 (0 : Int32) c3 (0 : Int32) (0 : Int32))), (4, .int (r_L_call V1 (0 : Int32) ((97 : Int32) + ((y / (4 : Int32)) - (y / (4 : Int32)) / (26 : Int32) * (26 : Int32))) (0 : Int32) (0 : Int32))), (3, .int (r_L_call V0 (0 : Int32) (40 : Int32) (0 : Int32) (0 : Int32))), (0, .ref (ad 0 0 0)), (1, .int x), (2, .int y)]) hx hb dL_act_228 hl (by decide) rfl (fun ls hl => ?_)
      refine lv_aload_n hx hb dL_act_230 rfl (lv_at hl 3 rfl) ?_
      refine lv_iconst (v := 0) hx hb dL_act_231 (by decide) ?_
      refine lv_bipush (v := 41) hx hb dL_act_232 (by decide) ?_
      refine lv_iconst (v := 0) hx hb dL_act_234 (by decide) ?_
      refine lv_iconst (v := 0) hx hb dL_act_235 (by decide) ?_
      refine cl_i (va_runS (As := [.ref (ad 0 0 0), .int (0 : Int32), .int (41 : Int32), .int (0 : Int32), .int (0 : Int32)]) (rest := []) ⟨hx, hb, hml, hown, hts⟩ (cca l hlt D cy ad (B := B) (V := V3) (V' := V4) hB3 (what := (0 : Int32)) (a := (41 : Int32)) (b := (0 : Int32)) (c := (0 : Int32)) (r := (r_L_call V3 (0 : Int32) (41 : Int32) (0 : Int32) (0 : Int32))) rfl hV4 (n15 (by decide)) H.size) (va_cwS 5 hts gL_act_L_call rfl rfl rfl (by decide +kernel) ⟨Nat.le_of_ble_eq_true rfl, Nat.le_of_ble_eq_true rfl⟩) ⟨blU, preU hP hD (pmI _) hK hE hS hA⟩ rfl rfl hl.1 rfl (lv_room (Nat.le_of_ble_eq_true rfl)) dL_act_236 ⟨Nat.le_of_ble_eq_true rfl, Nat.le_of_ble_eq_true rfl⟩) hP hD (pmI _) hS hA (fun H locs hP hD hS => ?_)
      have hP : va_P D vwCl (wB cy ad V4) H := vP_perm hP (pmI _).symm
      have hD : va_D A (wB cy ad V4) := vD_perm hD (pmI _).symm
      refine lv_istore (lv' := [(6, .int (r_L_call V3 (0 : Int32) (41 : Int32) (0 : Int32) (0 : Int32))), (5, .int (r_L_call V2 (0 : Int32) c3 (0 : Int32) (0 : Int32))), (4, .int (r_L_call V1 (0 : Int32) ((97 : Int32) + ((y / (4 : Int32)) - (y / (4 : Int32)) / (26 : Int32) * (26 : Int32))) (0 : Int32) (0 : Int32))), (3, .int (r_L_call V0 (0 : Int32) (40 : Int32) (0 : Int32) (0 : Int32))), (0, .ref (ad 0 0 0)), (1, .int x), (2, .int y)]) hx hb dL_act_239 hl (by decide) rfl (fun ls hl => ?_)
      refine lv_iload_n hx hb dL_act_241 rfl (lv_at hl 3 rfl) ?_
      refine lv_iload hx hb dL_act_242 (lv_at hl 2 rfl) ?_
      refine lv_iadd hx hb dL_act_244 ?_
      refine lv_iload hx hb dL_act_245 (lv_at hl 1 rfl) ?_
      refine lv_iadd hx hb dL_act_247 ?_
      refine lv_iload hx hb dL_act_248 (lv_at hl 0 rfl) ?_
      refine lv_iadd hx hb dL_act_250 ?_
      refine lv_aload_n hx hb dL_act_251 rfl (lv_at hl 4 rfl) ?_
      refine lv_iconst (v := 0) hx hb dL_act_252 (by decide) ?_
      refine lv_bipush (v := 50) hx hb dL_act_253 (by decide) ?_
      refine lv_iload_n hx hb dL_act_255 rfl (lv_at hl 6 rfl) ?_
      refine lv_sipush (v := 256) hx hb dL_act_256 (by decide) ?_
      refine lv_idiv hx hb dL_act_259 (by decide) ?_
      refine lv_bipush (v := 8) hx hb dL_act_260 (by decide) ?_
      refine lv_irem hx hb dL_act_262 (by decide) ?_
      refine lv_iadd hx hb dL_act_263 ?_
      refine lv_iconst (v := 0) hx hb dL_act_264 (by decide) ?_
      refine lv_iconst (v := 0) hx hb dL_act_265 (by decide) ?_
      refine cl_i (va_runS (As := [.ref (ad 0 0 0), .int (0 : Int32), .int ((50 : Int32) + ((y / (256 : Int32)) - (y / (256 : Int32)) / (8 : Int32) * (8 : Int32))), .int (0 : Int32), .int (0 : Int32)]) (rest := [.int ((((r_L_call V0 (0 : Int32) (40 : Int32) (0 : Int32) (0 : Int32)) + (r_L_call V1 (0 : Int32) ((97 : Int32) + ((y / (4 : Int32)) - (y / (4 : Int32)) / (26 : Int32) * (26 : Int32))) (0 : Int32) (0 : Int32))) + (r_L_call V2 (0 : Int32) c3 (0 : Int32) (0 : Int32))) + (r_L_call V3 (0 : Int32) (41 : Int32) (0 : Int32) (0 : Int32)))]) ⟨hx, hb, hml, hown, hts⟩ (cca l hlt D cy ad (B := B) (V := V4) (V' := V5) hB4 (what := (0 : Int32)) (a := ((50 : Int32) + ((y / (256 : Int32)) - (y / (256 : Int32)) / (8 : Int32) * (8 : Int32)))) (b := (0 : Int32)) (c := (0 : Int32)) (r := (r_L_call V4 (0 : Int32) ((50 : Int32) + ((y / (256 : Int32)) - (y / (256 : Int32)) / (8 : Int32) * (8 : Int32))) (0 : Int32) (0 : Int32))) rfl hV5 (n15 (by decide)) H.size) (va_cwS 5 hts gL_act_L_call rfl rfl rfl (by decide +kernel) ⟨Nat.le_of_ble_eq_true rfl, Nat.le_of_ble_eq_true rfl⟩) ⟨blU, preU hP hD (pmI _) hK hE hS hA⟩ rfl rfl hl.1 rfl (lv_room (Nat.le_of_ble_eq_true rfl)) dL_act_266 ⟨Nat.le_of_ble_eq_true rfl, Nat.le_of_ble_eq_true rfl⟩) hP hD (pmI _) hS hA (fun H locs hP hD hS => ?_)
      have hP : va_P D vwCl (wB cy ad V5) H := vP_perm hP (pmI _).symm
      have hD : va_D A (wB cy ad V5) := vD_perm hD (pmI _).symm
      refine lv_iadd hx hb dL_act_269 ?_
      exact hret _ H locs _ ls rfl hP hD hS dL_act_270
    refine lv_if_ne (tgt := 221) hx hb dL_act_213 (by decide) (fun c2 => ?_) (fun c2 => ?_)
    · refine lv_bipush (v := 45) hx hb dL_act_221 (by decide) ?_
      have e3 : c3 = (45 : Int32) := by rw [← hc3, if_neg c2]
      have q3 := tl2 H locs hP hD hS ls (lv_sub hl [0, 1, 2, 3, 4] rfl)
      rw [e3] at q3
      exact q3
    · refine lv_bipush (v := 43) hx hb dL_act_216 (by decide) ?_
      refine lv_goto (tgt := 223) hx hb dL_act_218 (by decide) ?_
      have e3 : c3 = (43 : Int32) := by rw [← hc3, if_pos c2]
      have q3 := tl2 H locs hP hD hS ls (lv_sub hl [0, 1, 2, 3, 4] rfl)
      rw [e3] at q3
      exact q3
  refine lv_if_ne (tgt := 176) hx hb dL_act_168 (by decide) (fun c1 => ?_) (fun c1 => ?_)
  · have e0 : V0 = V := by rw [← hV0, if_neg c1]
    rw [← e0] at hP hD
    exact tl H locs hP hD hS ls (lv_sub hl [0, 1, 2] rfl)
  · refine lv_aload_n hx hb dL_act_171 rfl (lv_at hl 0 rfl) ?_
    refine cl_i (va_runV (As := []) (rest := []) ⟨hx, hb, hml, hown, hts⟩ (c_X5_clearText l D cy ad V H.size ) (cwV 0 hts gL_act_X5_clearText rfl rfl rfl (by decide +kernel) ⟨Nat.le_of_ble_eq_true rfl, Nat.le_of_ble_eq_true rfl⟩) ⟨blU, va_recv hK (vP_perm hP (pmI _)) (ci := 4) (q0 := 0) rfl rfl, preU hP hD (pmI _) hK hE hS hA⟩ rfl rfl hl.1 rfl (lv_room (Nat.le_of_ble_eq_true rfl)) dL_act_172 ⟨Nat.le_of_ble_eq_true rfl, Nat.le_of_ble_eq_true rfl⟩) hP hD (pmI _) hS hA (fun H locs hP hD hS => ?_)
    have hP : va_P D vwCl (wB cy ad (w_X5_clearText V)) H := vP_perm hP (pmI _).symm
    have hD : va_D A (wB cy ad (w_X5_clearText V)) := vD_perm hD (pmI _).symm
    refine lv_pop hx hb dL_act_175 rfl ?_
    have e0 : V0 = w_X5_clearText V := by rw [← hV0, if_pos c1]
    rw [← e0] at hP hD
    exact tl H locs hP hD hS ls (lv_sub hl [0, 1, 2] rfl)

set_option maxHeartbeats 4000000 in
set_option maxRecDepth 100000 in
theorem act_9 {B : Nat} {V : BV} (hB : BInv B V) (hb30 : B + 300 < 2 ^ 30) {x y : Int32} (h16 : (x - x / (16 : Int32) * (16 : Int32)) = 9) : ActOK B V x y := by
  obtain ⟨V0, hV0⟩ : ∃ V0, (if (y - y / (3 : Int32) * (3 : Int32)) = 0 then w_X5_clearText V else V) = V0 := ⟨_, rfl⟩
  have hB0 : BInv B V0 := by
    rw [← hV0]
    split
    · exact hB.clear
    · exact hB
  obtain ⟨c3, hc3⟩ : ∃ c3 : Int32, (if ((y / (128 : Int32)) - (y / (128 : Int32)) / (2 : Int32) * (2 : Int32)) = 0 then (43 : Int32) else (45 : Int32)) = c3 := ⟨_, rfl⟩
  obtain ⟨V1, hV1⟩ : ∃ V9, w_L_call V0 (0 : Int32) (40 : Int32) (0 : Int32) (0 : Int32) = V9 := ⟨_, rfl⟩
  have hB1 : BInv B V1 := by rw [← hV1, wc_0]; exact hB0.append _
  obtain ⟨V2, hV2⟩ : ∃ V9, w_L_call V1 (0 : Int32) ((97 : Int32) + ((y / (4 : Int32)) - (y / (4 : Int32)) / (26 : Int32) * (26 : Int32))) (0 : Int32) (0 : Int32) = V9 := ⟨_, rfl⟩
  have hB2 : BInv B V2 := by rw [← hV2, wc_0]; exact hB1.append _
  obtain ⟨V3, hV3⟩ : ∃ V9, w_L_call V2 (0 : Int32) c3 (0 : Int32) (0 : Int32) = V9 := ⟨_, rfl⟩
  have hB3 : BInv B V3 := by rw [← hV3, wc_0]; exact hB2.append _
  obtain ⟨V4, hV4⟩ : ∃ V9, w_L_call V3 (0 : Int32) (41 : Int32) (0 : Int32) (0 : Int32) = V9 := ⟨_, rfl⟩
  have hB4 : BInv B V4 := by rw [← hV4, wc_0]; exact hB3.append _
  obtain ⟨V5, hV5⟩ : ∃ V9, w_L_call V4 (0 : Int32) ((50 : Int32) + ((y / (256 : Int32)) - (y / (256 : Int32)) / (8 : Int32) * (8 : Int32))) (0 : Int32) (0 : Int32) = V9 := ⟨_, rfl⟩
  have hB5 : BInv B V5 := by rw [← hV5, wc_0]; exact hB4.append _
  refine ⟨(((((r_L_call V0 (0 : Int32) (40 : Int32) (0 : Int32) (0 : Int32)) + (r_L_call V1 (0 : Int32) ((97 : Int32) + ((y / (4 : Int32)) - (y / (4 : Int32)) / (26 : Int32) * (26 : Int32))) (0 : Int32) (0 : Int32))) + (r_L_call V2 (0 : Int32) c3 (0 : Int32) (0 : Int32))) + (r_L_call V3 (0 : Int32) (41 : Int32) (0 : Int32) (0 : Int32))) + (r_L_call V4 (0 : Int32) ((50 : Int32) + ((y / (256 : Int32)) - (y / (256 : Int32)) / (8 : Int32) * (8 : Int32))) (0 : Int32) (0 : Int32))), V5, (hB5.mono (by omega)), fun l hlt D cy ad sz => ?_⟩
  refine st_i (ty := .int) (cc := cL_act) (maxL := 7) (by decide) rfl rfl (Nat.le_of_ble_eq_true rfl) ?_
  intro pp e s m below meth c A Q ls hx hb hts hown hml hlocks hsz hP hK hD hE hA hl hret
  subst hsz
  have hown : s.vm.findClass RL = some m.cls := hown
  have hl : lv_has ls 7 [(0, .ref (ad 0 0 0)), (1, .int x), (2, .int y)] := hl
  obtain ⟨H, hH⟩ : ∃ H, H = s.heap := ⟨_, rfl⟩
  rw [← hH] at hP ⊢
  have hS : va_S A s.heap H [] := by rw [hH]; exact va_S.rf
  obtain ⟨locs, hlo⟩ : ∃ locs : List Loc, locs = [] := ⟨_, rfl⟩
  rw [← hlo] at hS ⊢
  refine lv_iload_n hx hb dL_act_0 rfl (lv_at hl 1 rfl) ?_
  refine lv_bipush (v := 16) hx hb dL_act_1 (by decide) ?_
  refine lv_irem hx hb dL_act_3 (by decide) ?_
  refine lv_tableIn (tgt := 165) (off := 161) hx hb dL_act_4 (by rw [h16]; decide) (by rw [h16]; decide) (by rw [h16]; rfl) (by decide) ?_
  refine lv_iload_n hx hb dL_act_165 rfl (lv_at hl 2 rfl) ?_
  refine lv_iconst (v := 3) hx hb dL_act_166 (by decide) ?_
  refine lv_irem hx hb dL_act_167 (by decide) ?_
  have tl : ∀ (H : Heap) (locs : List Loc), va_P D vwCl (wB cy ad V0) H → va_D A (wB cy ad V0) → va_S A s.heap H locs → ∀ ls : Array Slot, lv_has ls 7 [(0, .ref (ad 0 0 0)), (1, .int x), (2, .int y)] → W pp l e rL_act s m ([.ref (ad 0 0 0), .int x, .int y] : List Value).toArray below meth c H locs 0 0 Q (F0 m 176 ls []) := by
    intro H locs hP hD hS ls hl
    refine lv_aload_n hx hb dL_act_176 rfl (lv_at hl 0 rfl) ?_
    refine lv_iconst (v := 0) hx hb dL_act_177 (by decide) ?_
    refine lv_bipush (v := 40) hx hb dL_act_178 (by decide) ?_
    refine lv_iconst (v := 0) hx hb dL_act_180 (by decide) ?_
    refine lv_iconst (v := 0) hx hb dL_act_181 (by decide) ?_
    refine cl_i (va_runS (As := [.ref (ad 0 0 0), .int (0 : Int32), .int (40 : Int32), .int (0 : Int32), .int (0 : Int32)]) (rest := []) ⟨hx, hb, hml, hown, hts⟩ (cca l hlt D cy ad (B := B) (V := V0) (V' := V1) hB0 (what := (0 : Int32)) (a := (40 : Int32)) (b := (0 : Int32)) (c := (0 : Int32)) (r := (r_L_call V0 (0 : Int32) (40 : Int32) (0 : Int32) (0 : Int32))) rfl hV1 (n15 (by decide)) H.size) (va_cwS 5 hts gL_act_L_call rfl rfl rfl (by decide +kernel) ⟨Nat.le_of_ble_eq_true rfl, Nat.le_of_ble_eq_true rfl⟩) ⟨blU, preU hP hD (pmI _) hK hE hS hA⟩ rfl rfl hl.1 rfl (lv_room (Nat.le_of_ble_eq_true rfl)) dL_act_182 ⟨Nat.le_of_ble_eq_true rfl, Nat.le_of_ble_eq_true rfl⟩) hP hD (pmI _) hS hA (fun H locs hP hD hS => ?_)
    have hP : va_P D vwCl (wB cy ad V1) H := vP_perm hP (pmI _).symm
    have hD : va_D A (wB cy ad V1) := vD_perm hD (pmI _).symm
    refine lv_istore_n (lv' := [(3, .int (r_L_call V0 (0 : Int32) (40 : Int32) (0 : Int32) (0 : Int32))), (0, .ref (ad 0 0 0)), (1, .int x), (2, .int y)]) hx hb dL_act_185 rfl hl (by decide) rfl (fun ls hl => ?_)
    refine lv_aload_n hx hb dL_act_186 rfl (lv_at hl 1 rfl) ?_
    refine lv_iconst (v := 0) hx hb dL_act_187 (by decide) ?_
    refine lv_bipush (v := 97) hx hb dL_act_188 (by decide) ?_
    refine lv_iload_n hx hb dL_act_190 rfl (lv_at hl 3 rfl) ?_
    refine lv_iconst (v := 4) hx hb dL_act_191 (by decide) ?_
    refine lv_idiv hx hb dL_act_192 (by decide) ?_
    refine lv_bipush (v := 26) hx hb dL_act_193 (by decide) ?_
    refine lv_irem hx hb dL_act_195 (by decide) ?_
    refine lv_iadd hx hb dL_act_196 ?_
    refine lv_iconst (v := 0) hx hb dL_act_197 (by decide) ?_
    refine lv_iconst (v := 0) hx hb dL_act_198 (by decide) ?_
    refine cl_i (va_runS (As := [.ref (ad 0 0 0), .int (0 : Int32), .int ((97 : Int32) + ((y / (4 : Int32)) - (y / (4 : Int32)) / (26 : Int32) * (26 : Int32))), .int (0 : Int32), .int (0 : Int32)]) (rest := []) ⟨hx, hb, hml, hown, hts⟩ (cca l hlt D cy ad (B := B) (V := V1) (V' := V2) hB1 (what := (0 : Int32)) (a := ((97 : Int32) + ((y / (4 : Int32)) - (y / (4 : Int32)) / (26 : Int32) * (26 : Int32)))) (b := (0 : Int32)) (c := (0 : Int32)) (r := (r_L_call V1 (0 : Int32) ((97 : Int32) + ((y / (4 : Int32)) - (y / (4 : Int32)) / (26 : Int32) * (26 : Int32))) (0 : Int32) (0 : Int32))) rfl hV2 (n15 (by decide)) H.size) (va_cwS 5 hts gL_act_L_call rfl rfl rfl (by decide +kernel) ⟨Nat.le_of_ble_eq_true rfl, Nat.le_of_ble_eq_true rfl⟩) ⟨blU, preU hP hD (pmI _) hK hE hS hA⟩ rfl rfl hl.1 rfl (lv_room (Nat.le_of_ble_eq_true rfl)) dL_act_199 ⟨Nat.le_of_ble_eq_true rfl, Nat.le_of_ble_eq_true rfl⟩) hP hD (pmI _) hS hA (fun H locs hP hD hS => ?_)
    have hP : va_P D vwCl (wB cy ad V2) H := vP_perm hP (pmI _).symm
    have hD : va_D A (wB cy ad V2) := vD_perm hD (pmI _).symm
    refine lv_istore (lv' := [(4, .int (r_L_call V1 (0 : Int32) ((97 : Int32) + ((y / (4 : Int32)) - (y / (4 : Int32)) / (26 : Int32) * (26 : Int32))) (0 : Int32) (0 : Int32))), (3, .int (r_L_call V0 (0 : Int32) (40 : Int32) (0 : Int32) (0 : Int32))), (0, .ref (ad 0 0 0)), (1, .int x), (2, .int y)]) hx hb dL_act_202 hl (by decide) rfl (fun ls hl => ?_)
    refine lv_aload_n hx hb dL_act_204 rfl (lv_at hl 2 rfl) ?_
    refine lv_iconst (v := 0) hx hb dL_act_205 (by decide) ?_
    refine lv_iload_n hx hb dL_act_206 rfl (lv_at hl 4 rfl) ?_
    refine lv_sipush (v := 128) hx hb dL_act_207 (by decide) ?_
    refine lv_idiv hx hb dL_act_210 (by decide) ?_
    refine lv_iconst (v := 2) hx hb dL_act_211 (by decide) ?_
    refine lv_irem hx hb dL_act_212 (by decide) ?_
    have tl2 : ∀ (H : Heap) (locs : List Loc), va_P D vwCl (wB cy ad V2) H → va_D A (wB cy ad V2) → va_S A s.heap H locs → ∀ ls : Array Slot, lv_has ls 7 [(4, .int (r_L_call V1 (0 : Int32) ((97 : Int32) + ((y / (4 : Int32)) - (y / (4 : Int32)) / (26 : Int32) * (26 : Int32))) (0 : Int32) (0 : Int32))), (3, .int (r_L_call V0 (0 : Int32) (40 : Int32) (0 : Int32) (0 : Int32))), (0, .ref (ad 0 0 0)), (1, .int x), (2, .int y)] → W pp l e rL_act s m ([.ref (ad 0 0 0), .int x, .int y] : List Value).toArray below meth c H locs 6 36 Q (F0 m 223 ls [.int c3, .int (0 : Int32), .ref (ad 0 0 0)]) := by
      intro H locs hP hD hS ls hl
      refine lv_iconst (v := 0) hx hb dL_act_223 (by decide) ?_
      refine lv_iconst (v := 0) hx hb dL_act_224 (by decide) ?_
      refine cl_i (va_runS (As := [.ref (ad 0 0 0), .int (0 : Int32), .int c3, .int (0 : Int32), .int (0 : Int32)]) (rest := []) ⟨hx, hb, hml, hown, hts⟩ (cca l hlt D cy ad (B := B) (V := V2) (V' := V3) hB2 (what := (0 : Int32)) (a := c3) (b := (0 : Int32)) (c := (0 : Int32)) (r := (r_L_call V2 (0 : Int32) c3 (0 : Int32) (0 : Int32))) rfl hV3 (n15 (by decide)) H.size) (va_cwS 5 hts gL_act_L_call rfl rfl rfl (by decide +kernel) ⟨Nat.le_of_ble_eq_true rfl, Nat.le_of_ble_eq_true rfl⟩) ⟨blU, preU hP hD (pmI _) hK hE hS hA⟩ rfl rfl hl.1 rfl (lv_room (Nat.le_of_ble_eq_true rfl)) dL_act_225 ⟨Nat.le_of_ble_eq_true rfl, Nat.le_of_ble_eq_true rfl⟩) hP hD (pmI _) hS hA (fun H locs hP hD hS => ?_)
      have hP : va_P D vwCl (wB cy ad V3) H := vP_perm hP (pmI _).symm
      have hD : va_D A (wB cy ad V3) := vD_perm hD (pmI _).symm
      refine lv_istore (lv' := [(5, .int (r_L_call V2 (0 : Int32) c3 (0 : Int32) (0 : Int32))), (4, .int (r_L_call V1 (0 : Int32) ((97 : Int32) + ((y / (4 : Int32)) - (y / (4 : Int32)) / (26 : Int32) * (26 : Int32))) (0 : Int32) (0 : Int32))), (3, .int (r_L_call V0 (0 : Int32) (40 : Int32) (0 : Int32) (0 : Int32))), (0, .ref (ad 0 0 0)), (1, .int x), (2, .int y)]) hx hb dL_act_228 hl (by decide) rfl (fun ls hl => ?_)
      refine lv_aload_n hx hb dL_act_230 rfl (lv_at hl 3 rfl) ?_
      refine lv_iconst (v := 0) hx hb dL_act_231 (by decide) ?_
      refine lv_bipush (v := 41) hx hb dL_act_232 (by decide) ?_
      refine lv_iconst (v := 0) hx hb dL_act_234 (by decide) ?_
      refine lv_iconst (v := 0) hx hb dL_act_235 (by decide) ?_
      refine cl_i (va_runS (As := [.ref (ad 0 0 0), .int (0 : Int32), .int (41 : Int32), .int (0 : Int32), .int (0 : Int32)]) (rest := []) ⟨hx, hb, hml, hown, hts⟩ (cca l hlt D cy ad (B := B) (V := V3) (V' := V4) hB3 (what := (0 : Int32)) (a := (41 : Int32)) (b := (0 : Int32)) (c := (0 : Int32)) (r := (r_L_call V3 (0 : Int32) (41 : Int32) (0 : Int32) (0 : Int32))) rfl hV4 (n15 (by decide)) H.size) (va_cwS 5 hts gL_act_L_call rfl rfl rfl (by decide +kernel) ⟨Nat.le_of_ble_eq_true rfl, Nat.le_of_ble_eq_true rfl⟩) ⟨blU, preU hP hD (pmI _) hK hE hS hA⟩ rfl rfl hl.1 rfl (lv_room (Nat.le_of_ble_eq_true rfl)) dL_act_236 ⟨Nat.le_of_ble_eq_true rfl, Nat.le_of_ble_eq_true rfl⟩) hP hD (pmI _) hS hA (fun H locs hP hD hS => ?_)
      have hP : va_P D vwCl (wB cy ad V4) H := vP_perm hP (pmI _).symm
      have hD : va_D A (wB cy ad V4) := vD_perm hD (pmI _).symm
      refine lv_istore (lv' := [(6, .int (r_L_call V3 (0 : Int32) (41 : Int32) (0 : Int32) (0 : Int32))), (5, .int (r_L_call V2 (0 : Int32) c3 (0 : Int32) (0 : Int32))), (4, .int (r_L_call V1 (0 : Int32) ((97 : Int32) + ((y / (4 : Int32)) - (y / (4 : Int32)) / (26 : Int32) * (26 : Int32))) (0 : Int32) (0 : Int32))), (3, .int (r_L_call V0 (0 : Int32) (40 : Int32) (0 : Int32) (0 : Int32))), (0, .ref (ad 0 0 0)), (1, .int x), (2, .int y)]) hx hb dL_act_239 hl (by decide) rfl (fun ls hl => ?_)
      refine lv_iload_n hx hb dL_act_241 rfl (lv_at hl 3 rfl) ?_
      refine lv_iload hx hb dL_act_242 (lv_at hl 2 rfl) ?_
      refine lv_iadd hx hb dL_act_244 ?_
      refine lv_iload hx hb dL_act_245 (lv_at hl 1 rfl) ?_
      refine lv_iadd hx hb dL_act_247 ?_
      refine lv_iload hx hb dL_act_248 (lv_at hl 0 rfl) ?_
      refine lv_iadd hx hb dL_act_250 ?_
      refine lv_aload_n hx hb dL_act_251 rfl (lv_at hl 4 rfl) ?_
      refine lv_iconst (v := 0) hx hb dL_act_252 (by decide) ?_
      refine lv_bipush (v := 50) hx hb dL_act_253 (by decide) ?_
      refine lv_iload_n hx hb dL_act_255 rfl (lv_at hl 6 rfl) ?_
      refine lv_sipush (v := 256) hx hb dL_act_256 (by decide) ?_
      refine lv_idiv hx hb dL_act_259 (by decide) ?_
      refine lv_bipush (v := 8) hx hb dL_act_260 (by decide) ?_
      refine lv_irem hx hb dL_act_262 (by decide) ?_
      refine lv_iadd hx hb dL_act_263 ?_
      refine lv_iconst (v := 0) hx hb dL_act_264 (by decide) ?_
      refine lv_iconst (v := 0) hx hb dL_act_265 (by decide) ?_
      refine cl_i (va_runS (As := [.ref (ad 0 0 0), .int (0 : Int32), .int ((50 : Int32) + ((y / (256 : Int32)) - (y / (256 : Int32)) / (8 : Int32) * (8 : Int32))), .int (0 : Int32), .int (0 : Int32)]) (rest := [.int ((((r_L_call V0 (0 : Int32) (40 : Int32) (0 : Int32) (0 : Int32)) + (r_L_call V1 (0 : Int32) ((97 : Int32) + ((y / (4 : Int32)) - (y / (4 : Int32)) / (26 : Int32) * (26 : Int32))) (0 : Int32) (0 : Int32))) + (r_L_call V2 (0 : Int32) c3 (0 : Int32) (0 : Int32))) + (r_L_call V3 (0 : Int32) (41 : Int32) (0 : Int32) (0 : Int32)))]) ⟨hx, hb, hml, hown, hts⟩ (cca l hlt D cy ad (B := B) (V := V4) (V' := V5) hB4 (what := (0 : Int32)) (a := ((50 : Int32) + ((y / (256 : Int32)) - (y / (256 : Int32)) / (8 : Int32) * (8 : Int32)))) (b := (0 : Int32)) (c := (0 : Int32)) (r := (r_L_call V4 (0 : Int32) ((50 : Int32) + ((y / (256 : Int32)) - (y / (256 : Int32)) / (8 : Int32) * (8 : Int32))) (0 : Int32) (0 : Int32))) rfl hV5 (n15 (by decide)) H.size) (va_cwS 5 hts gL_act_L_call rfl rfl rfl (by decide +kernel) ⟨Nat.le_of_ble_eq_true rfl, Nat.le_of_ble_eq_true rfl⟩) ⟨blU, preU hP hD (pmI _) hK hE hS hA⟩ rfl rfl hl.1 rfl (lv_room (Nat.le_of_ble_eq_true rfl)) dL_act_266 ⟨Nat.le_of_ble_eq_true rfl, Nat.le_of_ble_eq_true rfl⟩) hP hD (pmI _) hS hA (fun H locs hP hD hS => ?_)
      have hP : va_P D vwCl (wB cy ad V5) H := vP_perm hP (pmI _).symm
      have hD : va_D A (wB cy ad V5) := vD_perm hD (pmI _).symm
      refine lv_iadd hx hb dL_act_269 ?_
      exact hret _ H locs _ ls rfl hP hD hS dL_act_270
    refine lv_if_ne (tgt := 221) hx hb dL_act_213 (by decide) (fun c2 => ?_) (fun c2 => ?_)
    · refine lv_bipush (v := 45) hx hb dL_act_221 (by decide) ?_
      have e3 : c3 = (45 : Int32) := by rw [← hc3, if_neg c2]
      have q3 := tl2 H locs hP hD hS ls (lv_sub hl [0, 1, 2, 3, 4] rfl)
      rw [e3] at q3
      exact q3
    · refine lv_bipush (v := 43) hx hb dL_act_216 (by decide) ?_
      refine lv_goto (tgt := 223) hx hb dL_act_218 (by decide) ?_
      have e3 : c3 = (43 : Int32) := by rw [← hc3, if_pos c2]
      have q3 := tl2 H locs hP hD hS ls (lv_sub hl [0, 1, 2, 3, 4] rfl)
      rw [e3] at q3
      exact q3
  refine lv_if_ne (tgt := 176) hx hb dL_act_168 (by decide) (fun c1 => ?_) (fun c1 => ?_)
  · have e0 : V0 = V := by rw [← hV0, if_neg c1]
    rw [← e0] at hP hD
    exact tl H locs hP hD hS ls (lv_sub hl [0, 1, 2] rfl)
  · refine lv_aload_n hx hb dL_act_171 rfl (lv_at hl 0 rfl) ?_
    refine cl_i (va_runV (As := []) (rest := []) ⟨hx, hb, hml, hown, hts⟩ (c_X5_clearText l D cy ad V H.size ) (cwV 0 hts gL_act_X5_clearText rfl rfl rfl (by decide +kernel) ⟨Nat.le_of_ble_eq_true rfl, Nat.le_of_ble_eq_true rfl⟩) ⟨blU, va_recv hK (vP_perm hP (pmI _)) (ci := 4) (q0 := 0) rfl rfl, preU hP hD (pmI _) hK hE hS hA⟩ rfl rfl hl.1 rfl (lv_room (Nat.le_of_ble_eq_true rfl)) dL_act_172 ⟨Nat.le_of_ble_eq_true rfl, Nat.le_of_ble_eq_true rfl⟩) hP hD (pmI _) hS hA (fun H locs hP hD hS => ?_)
    have hP : va_P D vwCl (wB cy ad (w_X5_clearText V)) H := vP_perm hP (pmI _).symm
    have hD : va_D A (wB cy ad (w_X5_clearText V)) := vD_perm hD (pmI _).symm
    refine lv_pop hx hb dL_act_175 rfl ?_
    have e0 : V0 = w_X5_clearText V := by rw [← hV0, if_pos c1]
    rw [← e0] at hP hD
    exact tl H locs hP hD hS ls (lv_sub hl [0, 1, 2] rfl)

set_option maxHeartbeats 4000000 in
set_option maxRecDepth 100000 in
theorem act_10 {B : Nat} {V : BV} (hB : BInv B V) (hb30 : B + 300 < 2 ^ 30) {x y : Int32} (h16 : (x - x / (16 : Int32) * (16 : Int32)).toInt < 0 ∨ 9 < (x - x / (16 : Int32) * (16 : Int32)).toInt) : ActOK B V x y := by
  obtain ⟨tk, htk⟩ : ∃ tk : Int32, (if ((y / (32 : Int32)) - (y / (32 : Int32)) / (3 : Int32) * (3 : Int32)) ≤ 0 then (0 : Int32) else (1 : Int32)) = tk := ⟨_, rfl⟩
  refine ⟨(r_L_tryGo V (y - y / (26 : Int32) * (26 : Int32)) tk), (w_X5_branch V (y - y / (26 : Int32) * (26 : Int32)) tk), ((hB.branch (by omega) _ _).mono (by omega)), fun l hlt D cy ad sz => ?_⟩
  refine st_i (ty := .int) (cc := cL_act) (maxL := 7) (by decide) rfl rfl (Nat.le_of_ble_eq_true rfl) ?_
  intro pp e s m below meth c A Q ls hx hb hts hown hml hlocks hsz hP hK hD hE hA hl hret
  subst hsz
  have hown : s.vm.findClass RL = some m.cls := hown
  have hl : lv_has ls 7 [(0, .ref (ad 0 0 0)), (1, .int x), (2, .int y)] := hl
  obtain ⟨H, hH⟩ : ∃ H, H = s.heap := ⟨_, rfl⟩
  rw [← hH] at hP ⊢
  have hS : va_S A s.heap H [] := by rw [hH]; exact va_S.rf
  obtain ⟨locs, hlo⟩ : ∃ locs : List Loc, locs = [] := ⟨_, rfl⟩
  rw [← hlo] at hS ⊢
  refine lv_iload_n hx hb dL_act_0 rfl (lv_at hl 1 rfl) ?_
  refine lv_bipush (v := 16) hx hb dL_act_1 (by decide) ?_
  refine lv_irem hx hb dL_act_3 (by decide) ?_
  refine lv_tableOut (tgt := 271) hx hb dL_act_4 h16 (by decide) ?_
  refine lv_aload_n hx hb dL_act_271 rfl (lv_at hl 0 rfl) ?_
  refine lv_iload_n hx hb dL_act_272 rfl (lv_at hl 2 rfl) ?_
  refine lv_bipush (v := 26) hx hb dL_act_273 (by decide) ?_
  refine lv_irem hx hb dL_act_275 (by decide) ?_
  refine lv_iload_n hx hb dL_act_276 rfl (lv_at hl 2 rfl) ?_
  refine lv_bipush (v := 32) hx hb dL_act_277 (by decide) ?_
  refine lv_idiv hx hb dL_act_279 (by decide) ?_
  refine lv_iconst (v := 3) hx hb dL_act_280 (by decide) ?_
  refine lv_irem hx hb dL_act_281 (by decide) ?_
  have tl : ∀ (H : Heap) (locs : List Loc), va_P D vwCl (wB cy ad V) H → va_D A (wB cy ad V) → va_S A s.heap H locs → ∀ ls : Array Slot, lv_has ls 7 [(0, .ref (ad 0 0 0)), (1, .int x), (2, .int y)] → W pp l e rL_act s m ([.ref (ad 0 0 0), .int x, .int y] : List Value).toArray below meth c H locs 0 0 Q (F0 m 290 ls [.int tk, .int (y - y / (26 : Int32) * (26 : Int32)), .ref (ad 0 0 0)]) := by
    intro H locs hP hD hS ls hl
    refine cl_i (vx_runSW (As := [.ref (ad 0 0 0), .int (y - y / (26 : Int32) * (26 : Int32)), .int tk]) (rest := []) ⟨hx, hb, hml, hown, hts⟩ (ccg l hlt D cy ad (B := B) (V := V) (V' := (w_X5_branch V (y - y / (26 : Int32) * (26 : Int32)) tk)) hB (y - y / (26 : Int32) * (26 : Int32)) tk (r := (r_L_tryGo V (y - y / (26 : Int32) * (26 : Int32)) tk)) rfl rfl H.size) (vx_cwSW 3 hts gL_act_L_tryGo rfl rfl rfl (by decide +kernel) ⟨Nat.le_of_ble_eq_true rfl, Nat.le_of_ble_eq_true rfl⟩) ⟨blU, preU hP hD (pmI _) hK hE hS hA⟩ rfl rfl hl.1 rfl (lv_room (Nat.le_of_ble_eq_true rfl)) dL_act_290 ⟨Nat.le_of_ble_eq_true rfl, Nat.le_of_ble_eq_true rfl⟩) hP hD (pmI _) hS hA (fun H locs hP hD hS => ?_)
    have hP : va_P D vwCl (wB cy ad (w_X5_branch V (y - y / (26 : Int32) * (26 : Int32)) tk)) H := vP_perm hP (pmI _).symm
    have hD : va_D A (wB cy ad (w_X5_branch V (y - y / (26 : Int32) * (26 : Int32)) tk)) := vD_perm hD (pmI _).symm
    refine W.widen (k := 15) (n := 90) (Nat.le_of_ble_eq_true rfl) (Nat.le_of_ble_eq_true rfl) ?_
    exact hret _ H locs _ ls rfl hP hD hS dL_act_293
  refine lv_if_le (tgt := 289) hx hb dL_act_282 (by decide) (fun c1 => ?_) (fun c1 => ?_)
  · refine lv_iconst (v := 0) hx hb dL_act_289 (by decide) ?_
    have e3 : tk = (0 : Int32) := by rw [← htk, if_pos c1]
    have q3 := tl H locs hP hD hS ls (lv_sub hl [0, 1, 2] rfl)
    rw [e3] at q3
    exact q3
  · refine lv_iconst (v := 1) hx hb dL_act_285 (by decide) ?_
    refine lv_goto (tgt := 290) hx hb dL_act_286 (by decide) ?_
    have e3 : tk = (1 : Int32) := by rw [← htk, if_neg c1]
    have q3 := tl H locs hP hD hS ls (lv_sub hl [0, 1, 2] rfl)
    rw [e3] at q3
    exact q3
theorem act_ok {B : Nat} {V : BV} (hB : BInv B V) (hb30 : B + 300 < 2 ^ 30) {x y : Int32} {n : Nat} (hxn : x = nI n) (hn : n < 2 ^ 31) : ActOK B V x y := by
  have e16 : x - x / (16 : Int32) * (16 : Int32) = nI (n % 16) := rm_of hxn hn rfl (by decide) (by decide)
  have k16 : n % 16 < 16 := Nat.mod_lt _ (by decide)
  by_cases h10 : 9 < n % 16
  · exact act_10 hB hb30 (Or.inr (by rw [e16, nI_toInt (by omega)]; omega))
  · generalize n % 16 = k at e16 h10
    have hk : k = 0 ∨ k = 1 ∨ k = 2 ∨ k = 3 ∨ k = 4 ∨ k = 5 ∨ k = 6 ∨ k = 7 ∨ k = 8 ∨ k = 9 := by omega
    rcases hk with rfl | rfl | rfl | rfl | rfl | rfl | rfl | rfl | rfl | rfl
    · exact act_0 hB hb30 e16
    · exact act_1 hB hb30 e16
    · exact act_2 hB hb30 e16
    · exact act_3 hB hb30 e16
    · exact act_4 hB hb30 e16
    · exact act_5 hB hb30 e16
    · exact act_6 hB hb30 e16
    · exact act_7 hB hb30 e16
    · exact act_8 hB hb30 e16
    · exact act_9 hB hb30 e16
