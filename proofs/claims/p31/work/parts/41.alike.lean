/-! ===== the law: alike ===== -/
abbrev rL_alike : Room := { frames := 10, cells := 780, slots := 4680, locals := 209 }
set_option maxHeartbeats 8000000 in
set_option maxRecDepth 100000 in
theorem c_L_alike (l : Launch) (hlt : l.stackTraces = false) (D : va_G) (cy : Nat → ClassId) (ad bd : AD) {B : Nat} {V : BV} (hB : BInv B V) (x : Int32) (sz : Nat) : CQ l yL_alike wsL_alike rL_alike D cy [.ref (ad 0 0 0), .ref (bd 0 0 0), .int x] (wB cy ad V ++ wB cy bd V) sz 1 (fun u => BInv B u) (fun u => wB cy ad u ++ wB cy bd u) 780 4680 := by
  obtain ⟨V1, hV1⟩ : ∃ V9, w_X5_errorPosition V = V9 := ⟨_, rfl⟩
  have hB1 : BInv B V1 := by rw [← hV1]; exact hB.errorP
  obtain ⟨V2, hV2⟩ : ∃ V9, w_X5_branches V1 = V9 := ⟨_, rfl⟩
  have hB2 : BInv B V2 := by rw [← hV2]; exact hB1.branchesP
  obtain ⟨V3, hV3⟩ : ∃ V9, w_X5_wouldBring V2 = V9 := ⟨_, rfl⟩
  have hB3 : BInv B V3 := by rw [← hV3]; exact hB2.wouldB
  obtain ⟨V4, hV4⟩ : ∃ V9, w_L_call V3 (13 : Int32) (x - x / (2 : Int32) * (2 : Int32)) (0 : Int32) (0 : Int32) = V9 := ⟨_, rfl⟩
  have hB4 : BInv B V4 := by rw [← hV4, wc_13]; exact hB3.mixing _
  obtain ⟨V5, hV5⟩ : ∃ V9, w_L_call V4 (14 : Int32) (x - x / (2 : Int32) * (2 : Int32)) (0 : Int32) (0 : Int32) = V9 := ⟨_, rfl⟩
  have hB5 : BInv B V5 := by rw [← hV5, wc_14]; exact hB4.length _
  refine st_q (ty := .boolean) (cc := cL_alike) (maxL := 5) (by decide) rfl rfl (Nat.le_of_ble_eq_true rfl) ?_
  intro pp e s m below meth c A Q ls hx hb hts hown hml hlocks hsz hP hK hD hE hA hl hret
  subst hsz
  have hown : s.vm.findClass RL = some m.cls := hown
  have hl : lv_has ls 5 [(0, .ref (ad 0 0 0)), (1, .ref (bd 0 0 0)), (2, .int x)] := hl
  obtain ⟨H, hH⟩ : ∃ H, H = s.heap := ⟨_, rfl⟩
  rw [← hH] at hP ⊢
  have hS : va_S A s.heap H [] := by rw [hH]; exact va_S.rf
  obtain ⟨locs, hlo⟩ : ∃ locs : List Loc, locs = [] := ⟨_, rfl⟩
  rw [← hlo] at hS ⊢
  have ex3 : ∀ (U : BV) (hU : BInv B U) (H : Heap) (locs : List Loc), va_P D vwCl (wB cy ad U ++ wB cy bd U) H → va_D A (wB cy ad U ++ wB cy bd U) → va_S A s.heap H locs → ∀ ls : Array Slot, lv_has ls 5 [(4, .int (nI 4)), (3, .int (1 : Int32)), (0, .ref (ad 0 0 0)), (1, .ref (bd 0 0 0)), (2, .int x)] → W pp l e rL_alike s m ([.ref (ad 0 0 0), .ref (bd 0 0 0), .int x] : List Value).toArray below meth c H locs 780 4680 Q (F0 m 358 ls []) := by
    intro U hU H locs hP hD hS ls hl
    refine lv_iload_n hx hb dL_alike_358 rfl (lv_at hl 1 rfl) ?_
    exact hret U _ H locs _ ls hU rfl hP hD hS dL_alike_359
  have lp3 : ∀ (k i cs sl : Nat) (U : BV) (hU : BInv B U) (_ : i + k = 4) (_ : cs + 6 * k ≤ 780) (_ : sl + 36 * k ≤ 4680) (H : Heap) (locs : List Loc), va_P D vwCl (wB cy ad U ++ wB cy bd U) H → va_D A (wB cy ad U ++ wB cy bd U) → va_S A s.heap H locs → ∀ ls : Array Slot, lv_has ls 5 [(4, .int (nI i)), (3, .int (1 : Int32)), (0, .ref (ad 0 0 0)), (1, .ref (bd 0 0 0)), (2, .int x)] → W pp l e rL_alike s m ([.ref (ad 0 0 0), .ref (bd 0 0 0), .int x] : List Value).toArray below meth c H locs cs sl Q (F0 m 303 ls []) := by
    intro k
    induction k with
    | zero =>
      intro i cs sl U hU hi hc hs H locs hP hD hS ls hl
      have hi9 : i = 4 := by omega
      subst hi9
      refine lv_iload hx hb dL_alike_303 (lv_at hl 0 rfl) ?_
      refine lv_iconst (v := 4) hx hb dL_alike_305 (by decide) ?_
      refine lv_icmp_ge (tgt := 358) hx hb dL_alike_306 (by decide) (fun c_1 => ?_) (fun c_1 => absurd (show (4 : Int32) ≤ nI 4 from Int32.le_refl _) c_1)
      refine W.widen (k := 780) (n := 4680) (by omega) (by omega) ?_
      exact ex3 U hU H locs hP hD hS ls (lv_sub hl [0, 1, 2, 3, 4] rfl)
    | succ k ih =>
      intro i cs sl U hU hi hc hs H locs hP hD hS ls hl
      refine lv_iload hx hb dL_alike_303 (lv_at hl 0 rfl) ?_
      refine lv_iconst (v := 4) hx hb dL_alike_305 (by decide) ?_
      refine lv_icmp_ge (tgt := 358) hx hb dL_alike_306 (by decide) (fun c_2 => absurd c_2 (nI_ge (a := i) (b := 4) (by omega) (by decide))) (fun c_2 => ?_)
      refine lv_iload_n hx hb dL_alike_309 rfl (lv_at hl 1 rfl) ?_
      refine lv_if_eq (tgt := 358) hx hb dL_alike_310 (by decide) (fun c_3 => absurd c_3 (by decide)) (fun c_3 => ?_)
      refine lv_aload_n hx hb dL_alike_313 rfl (lv_at hl 2 rfl) ?_
      refine lv_iconst (v := 3) hx hb dL_alike_314 (by decide) ?_
      refine lv_iload_n hx hb dL_alike_315 rfl (lv_at hl 4 rfl) ?_
      refine lv_iconst (v := 2) hx hb dL_alike_316 (by decide) ?_
      refine lv_irem hx hb dL_alike_317 (by decide) ?_
      refine lv_iload hx hb dL_alike_318 (lv_at hl 0 rfl) ?_
      refine lv_iload_n hx hb dL_alike_320 rfl (lv_at hl 4 rfl) ?_
      refine lv_iconst (v := 2) hx hb dL_alike_321 (by decide) ?_
      refine lv_idiv hx hb dL_alike_322 (by decide) ?_
      refine lv_iconst (v := 4) hx hb dL_alike_323 (by decide) ?_
      refine lv_irem hx hb dL_alike_324 (by decide) ?_
      refine cl_i (va_runS (As := [.ref (ad 0 0 0), .int (3 : Int32), .int (x - x / (2 : Int32) * (2 : Int32)), .int (nI i), .int ((x / (2 : Int32)) - (x / (2 : Int32)) / (4 : Int32) * (4 : Int32))]) (rest := []) ⟨hx, hb, hml, hown, hts⟩ (cca l hlt D cy ad (B := B) (V := U) (V' := U) hU (what := (3 : Int32)) (a := (x - x / (2 : Int32) * (2 : Int32))) (b := (nI i)) (c := ((x / (2 : Int32)) - (x / (2 : Int32)) / (4 : Int32) * (4 : Int32))) (r := (r_L_call U (3 : Int32) (x - x / (2 : Int32) * (2 : Int32)) (nI i) ((x / (2 : Int32)) - (x / (2 : Int32)) / (4 : Int32) * (4 : Int32)))) rfl (wc_3 U (x - x / (2 : Int32) * (2 : Int32)) (nI i) ((x / (2 : Int32)) - (x / (2 : Int32)) / (4 : Int32) * (4 : Int32))) (n15 (by decide)) H.size) (va_cwS 5 hts gL_alike_L_call rfl rfl rfl (by decide +kernel) ⟨Nat.le_of_ble_eq_true rfl, Nat.le_of_ble_eq_true rfl⟩) ⟨blU, preU hP hD (List.Perm.refl _) hK hE hS hA⟩ rfl rfl hl.1 rfl (lv_room (Nat.le_of_ble_eq_true rfl)) dL_alike_325 ⟨(show (cs + 3) ≤ 780 by omega), (show (sl + 18) ≤ 4680 by omega)⟩) hP hD (List.Perm.refl _) hS hA (fun H locs hP hD hS => ?_)
      have hP : va_P D vwCl (wB cy ad U ++ wB cy bd U) H := vP_perm hP (List.Perm.refl _)
      have hD : va_D A (wB cy ad U ++ wB cy bd U) := vD_perm hD (List.Perm.refl _)
      refine lv_aload_n hx hb dL_alike_328 rfl (lv_at hl 3 rfl) ?_
      refine lv_iconst (v := 3) hx hb dL_alike_329 (by decide) ?_
      refine lv_iload_n hx hb dL_alike_330 rfl (lv_at hl 4 rfl) ?_
      refine lv_iconst (v := 2) hx hb dL_alike_331 (by decide) ?_
      refine lv_irem hx hb dL_alike_332 (by decide) ?_
      refine lv_iload hx hb dL_alike_333 (lv_at hl 0 rfl) ?_
      refine lv_iload_n hx hb dL_alike_335 rfl (lv_at hl 4 rfl) ?_
      refine lv_iconst (v := 2) hx hb dL_alike_336 (by decide) ?_
      refine lv_idiv hx hb dL_alike_337 (by decide) ?_
      refine lv_iconst (v := 4) hx hb dL_alike_338 (by decide) ?_
      refine lv_irem hx hb dL_alike_339 (by decide) ?_
      refine cl_i (va_runS (As := [.ref (bd 0 0 0), .int (3 : Int32), .int (x - x / (2 : Int32) * (2 : Int32)), .int (nI i), .int ((x / (2 : Int32)) - (x / (2 : Int32)) / (4 : Int32) * (4 : Int32))]) (rest := [.int (r_L_call U (3 : Int32) (x - x / (2 : Int32) * (2 : Int32)) (nI i) ((x / (2 : Int32)) - (x / (2 : Int32)) / (4 : Int32) * (4 : Int32)))]) ⟨hx, hb, hml, hown, hts⟩ (cca l hlt D cy bd (B := B) (V := U) (V' := U) hU (what := (3 : Int32)) (a := (x - x / (2 : Int32) * (2 : Int32))) (b := (nI i)) (c := ((x / (2 : Int32)) - (x / (2 : Int32)) / (4 : Int32) * (4 : Int32))) (r := (r_L_call U (3 : Int32) (x - x / (2 : Int32) * (2 : Int32)) (nI i) ((x / (2 : Int32)) - (x / (2 : Int32)) / (4 : Int32) * (4 : Int32)))) rfl (wc_3 U (x - x / (2 : Int32) * (2 : Int32)) (nI i) ((x / (2 : Int32)) - (x / (2 : Int32)) / (4 : Int32) * (4 : Int32))) (n15 (by decide)) H.size) (va_cwS 5 hts gL_alike_L_call rfl rfl rfl (by decide +kernel) ⟨Nat.le_of_ble_eq_true rfl, Nat.le_of_ble_eq_true rfl⟩) ⟨blU, preU hP hD List.perm_append_comm hK hE hS hA⟩ rfl rfl hl.1 rfl (lv_room (Nat.le_of_ble_eq_true rfl)) dL_alike_340 ⟨(show (cs + 6) ≤ 780 by omega), (show (sl + 36) ≤ 4680 by omega)⟩) hP hD List.perm_append_comm hS hA (fun H locs hP hD hS => ?_)
      have hP : va_P D vwCl (wB cy ad U ++ wB cy bd U) H := vP_perm hP List.perm_append_comm
      have hD : va_D A (wB cy ad U ++ wB cy bd U) := vD_perm hD List.perm_append_comm
      refine lv_icmp_ne (tgt := 350) hx hb dL_alike_343 (by decide) (fun c_4 => absurd rfl c_4) (fun c_4 => ?_)
      refine lv_iconst (v := 1) hx hb dL_alike_346 (by decide) ?_
      refine lv_goto (tgt := 351) hx hb dL_alike_347 (by decide) ?_
      refine lv_istore_n (lv' := [(3, .int (1 : Int32)), (4, .int (nI i)), (0, .ref (ad 0 0 0)), (1, .ref (bd 0 0 0)), (2, .int x)]) hx hb dL_alike_351 rfl hl (by decide) rfl (fun ls hl => ?_)
      refine lv_iinc (v := (nI (i + 1))) (lv' := [(4, .int (nI (i + 1))), (3, .int (1 : Int32)), (0, .ref (ad 0 0 0)), (1, .ref (bd 0 0 0)), (2, .int x)]) hx hb dL_alike_352 hl (k := 1) rfl (nI_1 i) (by decide) rfl (fun ls hl => ?_)
      refine lv_goto (tgt := 303) hx hb dL_alike_355 (by decide) ?_
      exact ih (i + 1) (cs + 6) (sl + 36) U hU (by omega) (by omega) (by omega) H locs hP hD hS ls (lv_sub hl [0, 1, 2, 3, 4] rfl)
  have ex2 : ∀ (U : BV) (hU : BInv B U) (H : Heap) (locs : List Loc), va_P D vwCl (wB cy ad U ++ wB cy bd U) H → va_D A (wB cy ad U ++ wB cy bd U) → va_S A s.heap H locs → ∀ ls : Array Slot, lv_has ls 5 [(4, .int (nI 26)), (3, .int (1 : Int32)), (0, .ref (ad 0 0 0)), (1, .ref (bd 0 0 0)), (2, .int x)] → W pp l e rL_alike s m ([.ref (ad 0 0 0), .ref (bd 0 0 0), .int x] : List Value).toArray below meth c H locs 756 4536 Q (F0 m 300 ls []) := by
    intro U hU H locs hP hD hS ls hl
    refine lv_iconst (v := 0) hx hb dL_alike_300 (by decide) ?_
    refine lv_istore (lv' := [(4, .int (0 : Int32)), (3, .int (1 : Int32)), (0, .ref (ad 0 0 0)), (1, .ref (bd 0 0 0)), (2, .int x)]) hx hb dL_alike_301 hl (by decide) rfl (fun ls hl => ?_)
    exact lp3 4 0 756 4536 U hU (by omega) (by omega) (by omega) H locs hP hD hS ls (lv_sub hl [0, 1, 2, 3, 4] rfl)
  have lp2 : ∀ (k i cs sl : Nat) (U : BV) (hU : BInv B U) (_ : i + k = 26) (_ : cs + 24 * k ≤ 756) (_ : sl + 144 * k ≤ 4536) (H : Heap) (locs : List Loc), va_P D vwCl (wB cy ad U ++ wB cy bd U) H → va_D A (wB cy ad U ++ wB cy bd U) → va_S A s.heap H locs → ∀ ls : Array Slot, lv_has ls 5 [(4, .int (nI i)), (3, .int (1 : Int32)), (0, .ref (ad 0 0 0)), (1, .ref (bd 0 0 0)), (2, .int x)] → W pp l e rL_alike s m ([.ref (ad 0 0 0), .ref (bd 0 0 0), .int x] : List Value).toArray below meth c H locs cs sl Q (F0 m 179 ls []) := by
    intro k
    induction k with
    | zero =>
      intro i cs sl U hU hi hc hs H locs hP hD hS ls hl
      have hi9 : i = 26 := by omega
      subst hi9
      refine lv_iload hx hb dL_alike_179 (lv_at hl 0 rfl) ?_
      refine lv_bipush (v := 26) hx hb dL_alike_181 (by decide) ?_
      refine lv_icmp_ge (tgt := 300) hx hb dL_alike_183 (by decide) (fun c_5 => ?_) (fun c_5 => absurd (show (26 : Int32) ≤ nI 26 from Int32.le_refl _) c_5)
      refine W.widen (k := 756) (n := 4536) (by omega) (by omega) ?_
      exact ex2 U hU H locs hP hD hS ls (lv_sub hl [0, 1, 2, 3, 4] rfl)
    | succ k ih =>
      intro i cs sl U hU hi hc hs H locs hP hD hS ls hl
      refine lv_iload hx hb dL_alike_179 (lv_at hl 0 rfl) ?_
      refine lv_bipush (v := 26) hx hb dL_alike_181 (by decide) ?_
      refine lv_icmp_ge (tgt := 300) hx hb dL_alike_183 (by decide) (fun c_6 => absurd c_6 (nI_ge (a := i) (b := 26) (by omega) (by decide))) (fun c_6 => ?_)
      refine lv_iload_n hx hb dL_alike_186 rfl (lv_at hl 1 rfl) ?_
      refine lv_if_eq (tgt := 300) hx hb dL_alike_187 (by decide) (fun c_7 => absurd c_7 (by decide)) (fun c_7 => ?_)
      refine lv_aload_n hx hb dL_alike_190 rfl (lv_at hl 2 rfl) ?_
      refine lv_iconst (v := 4) hx hb dL_alike_191 (by decide) ?_
      refine lv_iload hx hb dL_alike_192 (lv_at hl 0 rfl) ?_
      refine lv_iload_n hx hb dL_alike_194 rfl (lv_at hl 4 rfl) ?_
      refine lv_iconst (v := 5) hx hb dL_alike_195 (by decide) ?_
      refine lv_irem hx hb dL_alike_196 (by decide) ?_
      refine lv_iconst (v := 0) hx hb dL_alike_197 (by decide) ?_
      refine cl_i (va_runS (As := [.ref (ad 0 0 0), .int (4 : Int32), .int (nI i), .int (x - x / (5 : Int32) * (5 : Int32)), .int (0 : Int32)]) (rest := []) ⟨hx, hb, hml, hown, hts⟩ (cca l hlt D cy ad (B := B) (V := U) (V' := U) hU (what := (4 : Int32)) (a := (nI i)) (b := (x - x / (5 : Int32) * (5 : Int32))) (c := (0 : Int32)) (r := (r_L_call U (4 : Int32) (nI i) (x - x / (5 : Int32) * (5 : Int32)) (0 : Int32))) rfl (wc_4 U (nI i) (x - x / (5 : Int32) * (5 : Int32)) (0 : Int32)) (n15 (by decide)) H.size) (va_cwS 5 hts gL_alike_L_call rfl rfl rfl (by decide +kernel) ⟨Nat.le_of_ble_eq_true rfl, Nat.le_of_ble_eq_true rfl⟩) ⟨blU, preU hP hD (List.Perm.refl _) hK hE hS hA⟩ rfl rfl hl.1 rfl (lv_room (Nat.le_of_ble_eq_true rfl)) dL_alike_198 ⟨(show (cs + 3) ≤ 780 by omega), (show (sl + 18) ≤ 4680 by omega)⟩) hP hD (List.Perm.refl _) hS hA (fun H locs hP hD hS => ?_)
      have hP : va_P D vwCl (wB cy ad U ++ wB cy bd U) H := vP_perm hP (List.Perm.refl _)
      have hD : va_D A (wB cy ad U ++ wB cy bd U) := vD_perm hD (List.Perm.refl _)
      refine lv_aload_n hx hb dL_alike_201 rfl (lv_at hl 3 rfl) ?_
      refine lv_iconst (v := 4) hx hb dL_alike_202 (by decide) ?_
      refine lv_iload hx hb dL_alike_203 (lv_at hl 0 rfl) ?_
      refine lv_iload_n hx hb dL_alike_205 rfl (lv_at hl 4 rfl) ?_
      refine lv_iconst (v := 5) hx hb dL_alike_206 (by decide) ?_
      refine lv_irem hx hb dL_alike_207 (by decide) ?_
      refine lv_iconst (v := 0) hx hb dL_alike_208 (by decide) ?_
      refine cl_i (va_runS (As := [.ref (bd 0 0 0), .int (4 : Int32), .int (nI i), .int (x - x / (5 : Int32) * (5 : Int32)), .int (0 : Int32)]) (rest := [.int (r_L_call U (4 : Int32) (nI i) (x - x / (5 : Int32) * (5 : Int32)) (0 : Int32))]) ⟨hx, hb, hml, hown, hts⟩ (cca l hlt D cy bd (B := B) (V := U) (V' := U) hU (what := (4 : Int32)) (a := (nI i)) (b := (x - x / (5 : Int32) * (5 : Int32))) (c := (0 : Int32)) (r := (r_L_call U (4 : Int32) (nI i) (x - x / (5 : Int32) * (5 : Int32)) (0 : Int32))) rfl (wc_4 U (nI i) (x - x / (5 : Int32) * (5 : Int32)) (0 : Int32)) (n15 (by decide)) H.size) (va_cwS 5 hts gL_alike_L_call rfl rfl rfl (by decide +kernel) ⟨Nat.le_of_ble_eq_true rfl, Nat.le_of_ble_eq_true rfl⟩) ⟨blU, preU hP hD List.perm_append_comm hK hE hS hA⟩ rfl rfl hl.1 rfl (lv_room (Nat.le_of_ble_eq_true rfl)) dL_alike_209 ⟨(show (cs + 6) ≤ 780 by omega), (show (sl + 36) ≤ 4680 by omega)⟩) hP hD List.perm_append_comm hS hA (fun H locs hP hD hS => ?_)
      have hP : va_P D vwCl (wB cy ad U ++ wB cy bd U) H := vP_perm hP List.perm_append_comm
      have hD : va_D A (wB cy ad U ++ wB cy bd U) := vD_perm hD List.perm_append_comm
      refine lv_icmp_ne (tgt := 292) hx hb dL_alike_212 (by decide) (fun c_8 => absurd rfl c_8) (fun c_8 => ?_)
      refine lv_aload_n hx hb dL_alike_215 rfl (lv_at hl 2 rfl) ?_
      refine lv_bipush (v := 6) hx hb dL_alike_216 (by decide) ?_
      refine lv_iload_n hx hb dL_alike_218 rfl (lv_at hl 4 rfl) ?_
      refine lv_iconst (v := 2) hx hb dL_alike_219 (by decide) ?_
      refine lv_irem hx hb dL_alike_220 (by decide) ?_
      refine lv_iload hx hb dL_alike_221 (lv_at hl 0 rfl) ?_
      refine lv_iconst (v := 0) hx hb dL_alike_223 (by decide) ?_
      refine cl_i (va_runS (As := [.ref (ad 0 0 0), .int (6 : Int32), .int (x - x / (2 : Int32) * (2 : Int32)), .int (nI i), .int (0 : Int32)]) (rest := []) ⟨hx, hb, hml, hown, hts⟩ (cca l hlt D cy ad (B := B) (V := U) (V' := U) hU (what := (6 : Int32)) (a := (x - x / (2 : Int32) * (2 : Int32))) (b := (nI i)) (c := (0 : Int32)) (r := (r_L_call U (6 : Int32) (x - x / (2 : Int32) * (2 : Int32)) (nI i) (0 : Int32))) rfl (wc_6 U (x - x / (2 : Int32) * (2 : Int32)) (nI i) (0 : Int32)) (n15 (by decide)) H.size) (va_cwS 5 hts gL_alike_L_call rfl rfl rfl (by decide +kernel) ⟨Nat.le_of_ble_eq_true rfl, Nat.le_of_ble_eq_true rfl⟩) ⟨blU, preU hP hD (List.Perm.refl _) hK hE hS hA⟩ rfl rfl hl.1 rfl (lv_room (Nat.le_of_ble_eq_true rfl)) dL_alike_224 ⟨(show (cs + 9) ≤ 780 by omega), (show (sl + 54) ≤ 4680 by omega)⟩) hP hD (List.Perm.refl _) hS hA (fun H locs hP hD hS => ?_)
      have hP : va_P D vwCl (wB cy ad U ++ wB cy bd U) H := vP_perm hP (List.Perm.refl _)
      have hD : va_D A (wB cy ad U ++ wB cy bd U) := vD_perm hD (List.Perm.refl _)
      refine lv_aload_n hx hb dL_alike_227 rfl (lv_at hl 3 rfl) ?_
      refine lv_bipush (v := 6) hx hb dL_alike_228 (by decide) ?_
      refine lv_iload_n hx hb dL_alike_230 rfl (lv_at hl 4 rfl) ?_
      refine lv_iconst (v := 2) hx hb dL_alike_231 (by decide) ?_
      refine lv_irem hx hb dL_alike_232 (by decide) ?_
      refine lv_iload hx hb dL_alike_233 (lv_at hl 0 rfl) ?_
      refine lv_iconst (v := 0) hx hb dL_alike_235 (by decide) ?_
      refine cl_i (va_runS (As := [.ref (bd 0 0 0), .int (6 : Int32), .int (x - x / (2 : Int32) * (2 : Int32)), .int (nI i), .int (0 : Int32)]) (rest := [.int (r_L_call U (6 : Int32) (x - x / (2 : Int32) * (2 : Int32)) (nI i) (0 : Int32))]) ⟨hx, hb, hml, hown, hts⟩ (cca l hlt D cy bd (B := B) (V := U) (V' := U) hU (what := (6 : Int32)) (a := (x - x / (2 : Int32) * (2 : Int32))) (b := (nI i)) (c := (0 : Int32)) (r := (r_L_call U (6 : Int32) (x - x / (2 : Int32) * (2 : Int32)) (nI i) (0 : Int32))) rfl (wc_6 U (x - x / (2 : Int32) * (2 : Int32)) (nI i) (0 : Int32)) (n15 (by decide)) H.size) (va_cwS 5 hts gL_alike_L_call rfl rfl rfl (by decide +kernel) ⟨Nat.le_of_ble_eq_true rfl, Nat.le_of_ble_eq_true rfl⟩) ⟨blU, preU hP hD List.perm_append_comm hK hE hS hA⟩ rfl rfl hl.1 rfl (lv_room (Nat.le_of_ble_eq_true rfl)) dL_alike_236 ⟨(show (cs + 12) ≤ 780 by omega), (show (sl + 72) ≤ 4680 by omega)⟩) hP hD List.perm_append_comm hS hA (fun H locs hP hD hS => ?_)
      have hP : va_P D vwCl (wB cy ad U ++ wB cy bd U) H := vP_perm hP List.perm_append_comm
      have hD : va_D A (wB cy ad U ++ wB cy bd U) := vD_perm hD List.perm_append_comm
      refine lv_icmp_ne (tgt := 292) hx hb dL_alike_239 (by decide) (fun c_9 => absurd rfl c_9) (fun c_9 => ?_)
      refine lv_aload_n hx hb dL_alike_242 rfl (lv_at hl 2 rfl) ?_
      refine lv_bipush (v := 7) hx hb dL_alike_243 (by decide) ?_
      refine lv_iload hx hb dL_alike_245 (lv_at hl 0 rfl) ?_
      refine lv_iconst (v := 0) hx hb dL_alike_247 (by decide) ?_
      refine lv_iconst (v := 0) hx hb dL_alike_248 (by decide) ?_
      refine cl_i (va_runS (As := [.ref (ad 0 0 0), .int (7 : Int32), .int (nI i), .int (0 : Int32), .int (0 : Int32)]) (rest := []) ⟨hx, hb, hml, hown, hts⟩ (cca l hlt D cy ad (B := B) (V := U) (V' := U) hU (what := (7 : Int32)) (a := (nI i)) (b := (0 : Int32)) (c := (0 : Int32)) (r := (r_L_call U (7 : Int32) (nI i) (0 : Int32) (0 : Int32))) rfl (wc_7 U (nI i) (0 : Int32) (0 : Int32)) (n15 (by decide)) H.size) (va_cwS 5 hts gL_alike_L_call rfl rfl rfl (by decide +kernel) ⟨Nat.le_of_ble_eq_true rfl, Nat.le_of_ble_eq_true rfl⟩) ⟨blU, preU hP hD (List.Perm.refl _) hK hE hS hA⟩ rfl rfl hl.1 rfl (lv_room (Nat.le_of_ble_eq_true rfl)) dL_alike_249 ⟨(show (cs + 15) ≤ 780 by omega), (show (sl + 90) ≤ 4680 by omega)⟩) hP hD (List.Perm.refl _) hS hA (fun H locs hP hD hS => ?_)
      have hP : va_P D vwCl (wB cy ad U ++ wB cy bd U) H := vP_perm hP (List.Perm.refl _)
      have hD : va_D A (wB cy ad U ++ wB cy bd U) := vD_perm hD (List.Perm.refl _)
      refine lv_aload_n hx hb dL_alike_252 rfl (lv_at hl 3 rfl) ?_
      refine lv_bipush (v := 7) hx hb dL_alike_253 (by decide) ?_
      refine lv_iload hx hb dL_alike_255 (lv_at hl 0 rfl) ?_
      refine lv_iconst (v := 0) hx hb dL_alike_257 (by decide) ?_
      refine lv_iconst (v := 0) hx hb dL_alike_258 (by decide) ?_
      refine cl_i (va_runS (As := [.ref (bd 0 0 0), .int (7 : Int32), .int (nI i), .int (0 : Int32), .int (0 : Int32)]) (rest := [.int (r_L_call U (7 : Int32) (nI i) (0 : Int32) (0 : Int32))]) ⟨hx, hb, hml, hown, hts⟩ (cca l hlt D cy bd (B := B) (V := U) (V' := U) hU (what := (7 : Int32)) (a := (nI i)) (b := (0 : Int32)) (c := (0 : Int32)) (r := (r_L_call U (7 : Int32) (nI i) (0 : Int32) (0 : Int32))) rfl (wc_7 U (nI i) (0 : Int32) (0 : Int32)) (n15 (by decide)) H.size) (va_cwS 5 hts gL_alike_L_call rfl rfl rfl (by decide +kernel) ⟨Nat.le_of_ble_eq_true rfl, Nat.le_of_ble_eq_true rfl⟩) ⟨blU, preU hP hD List.perm_append_comm hK hE hS hA⟩ rfl rfl hl.1 rfl (lv_room (Nat.le_of_ble_eq_true rfl)) dL_alike_259 ⟨(show (cs + 18) ≤ 780 by omega), (show (sl + 108) ≤ 4680 by omega)⟩) hP hD List.perm_append_comm hS hA (fun H locs hP hD hS => ?_)
      have hP : va_P D vwCl (wB cy ad U ++ wB cy bd U) H := vP_perm hP List.perm_append_comm
      have hD : va_D A (wB cy ad U ++ wB cy bd U) := vD_perm hD List.perm_append_comm
      refine lv_icmp_ne (tgt := 292) hx hb dL_alike_262 (by decide) (fun c_10 => absurd rfl c_10) (fun c_10 => ?_)
      refine lv_aload_n hx hb dL_alike_265 rfl (lv_at hl 2 rfl) ?_
      refine lv_bipush (v := 16) hx hb dL_alike_266 (by decide) ?_
      refine lv_iload hx hb dL_alike_268 (lv_at hl 0 rfl) ?_
      refine lv_iconst (v := 0) hx hb dL_alike_270 (by decide) ?_
      refine lv_iconst (v := 0) hx hb dL_alike_271 (by decide) ?_
      obtain ⟨U1, hU1⟩ : ∃ V9, w_L_call U (16 : Int32) (nI i) (0 : Int32) (0 : Int32) = V9 := ⟨_, rfl⟩
      have hBU1 : BInv B U1 := by rw [← hU1, wc_16]; exact hU.holdsP _
      refine cl_i (va_runS (As := [.ref (ad 0 0 0), .int (16 : Int32), .int (nI i), .int (0 : Int32), .int (0 : Int32)]) (rest := []) ⟨hx, hb, hml, hown, hts⟩ (cca l hlt D cy ad (B := B) (V := U) (V' := U1) hU (what := (16 : Int32)) (a := (nI i)) (b := (0 : Int32)) (c := (0 : Int32)) (r := (r_L_call U (16 : Int32) (nI i) (0 : Int32) (0 : Int32))) rfl hU1 (n15 (by decide)) H.size) (va_cwS 5 hts gL_alike_L_call rfl rfl rfl (by decide +kernel) ⟨Nat.le_of_ble_eq_true rfl, Nat.le_of_ble_eq_true rfl⟩) ⟨blU, preU hP hD (List.Perm.refl _) hK hE hS hA⟩ rfl rfl hl.1 rfl (lv_room (Nat.le_of_ble_eq_true rfl)) dL_alike_272 ⟨(show (cs + 21) ≤ 780 by omega), (show (sl + 126) ≤ 4680 by omega)⟩) hP hD (List.Perm.refl _) hS hA (fun H locs hP hD hS => ?_)
      have hP : va_P D vwCl (wB cy ad U1 ++ wB cy bd U) H := vP_perm hP (List.Perm.refl _)
      have hD : va_D A (wB cy ad U1 ++ wB cy bd U) := vD_perm hD (List.Perm.refl _)
      refine lv_aload_n hx hb dL_alike_275 rfl (lv_at hl 3 rfl) ?_
      refine lv_bipush (v := 16) hx hb dL_alike_276 (by decide) ?_
      refine lv_iload hx hb dL_alike_278 (lv_at hl 0 rfl) ?_
      refine lv_iconst (v := 0) hx hb dL_alike_280 (by decide) ?_
      refine lv_iconst (v := 0) hx hb dL_alike_281 (by decide) ?_
      refine cl_i (va_runS (As := [.ref (bd 0 0 0), .int (16 : Int32), .int (nI i), .int (0 : Int32), .int (0 : Int32)]) (rest := [.int (r_L_call U (16 : Int32) (nI i) (0 : Int32) (0 : Int32))]) ⟨hx, hb, hml, hown, hts⟩ (cca l hlt D cy bd (B := B) (V := U) (V' := U1) hU (what := (16 : Int32)) (a := (nI i)) (b := (0 : Int32)) (c := (0 : Int32)) (r := (r_L_call U (16 : Int32) (nI i) (0 : Int32) (0 : Int32))) rfl hU1 (n15 (by decide)) H.size) (va_cwS 5 hts gL_alike_L_call rfl rfl rfl (by decide +kernel) ⟨Nat.le_of_ble_eq_true rfl, Nat.le_of_ble_eq_true rfl⟩) ⟨blU, preU hP hD List.perm_append_comm hK hE hS hA⟩ rfl rfl hl.1 rfl (lv_room (Nat.le_of_ble_eq_true rfl)) dL_alike_282 ⟨(show (cs + 24) ≤ 780 by omega), (show (sl + 144) ≤ 4680 by omega)⟩) hP hD List.perm_append_comm hS hA (fun H locs hP hD hS => ?_)
      have hP : va_P D vwCl (wB cy ad U1 ++ wB cy bd U1) H := vP_perm hP List.perm_append_comm
      have hD : va_D A (wB cy ad U1 ++ wB cy bd U1) := vD_perm hD List.perm_append_comm
      refine lv_icmp_ne (tgt := 292) hx hb dL_alike_285 (by decide) (fun c_11 => absurd rfl c_11) (fun c_11 => ?_)
      refine lv_iconst (v := 1) hx hb dL_alike_288 (by decide) ?_
      refine lv_goto (tgt := 293) hx hb dL_alike_289 (by decide) ?_
      refine lv_istore_n (lv' := [(3, .int (1 : Int32)), (4, .int (nI i)), (0, .ref (ad 0 0 0)), (1, .ref (bd 0 0 0)), (2, .int x)]) hx hb dL_alike_293 rfl hl (by decide) rfl (fun ls hl => ?_)
      refine lv_iinc (v := (nI (i + 1))) (lv' := [(4, .int (nI (i + 1))), (3, .int (1 : Int32)), (0, .ref (ad 0 0 0)), (1, .ref (bd 0 0 0)), (2, .int x)]) hx hb dL_alike_294 hl (k := 1) rfl (nI_1 i) (by decide) rfl (fun ls hl => ?_)
      refine lv_goto (tgt := 179) hx hb dL_alike_297 (by decide) ?_
      exact ih (i + 1) (cs + 24) (sl + 144) U1 hBU1 (by omega) (by omega) (by omega) H locs hP hD hS ls (lv_sub hl [0, 1, 2, 3, 4] rfl)
  have ex1 : ∀ (U : BV) (hU : BInv B U) (H : Heap) (locs : List Loc), va_P D vwCl (wB cy ad U ++ wB cy bd U) H → va_D A (wB cy ad U ++ wB cy bd U) → va_S A s.heap H locs → ∀ ls : Array Slot, lv_has ls 5 [(4, .int (nI 10)), (3, .int (1 : Int32)), (0, .ref (ad 0 0 0)), (1, .ref (bd 0 0 0)), (2, .int x)] → W pp l e rL_alike s m ([.ref (ad 0 0 0), .ref (bd 0 0 0), .int x] : List Value).toArray below meth c H locs 132 792 Q (F0 m 176 ls []) := by
    intro U hU H locs hP hD hS ls hl
    refine lv_iconst (v := 0) hx hb dL_alike_176 (by decide) ?_
    refine lv_istore (lv' := [(4, .int (0 : Int32)), (3, .int (1 : Int32)), (0, .ref (ad 0 0 0)), (1, .ref (bd 0 0 0)), (2, .int x)]) hx hb dL_alike_177 hl (by decide) rfl (fun ls hl => ?_)
    exact lp2 26 0 132 792 U hU (by omega) (by omega) (by omega) H locs hP hD hS ls (lv_sub hl [0, 1, 2, 3, 4] rfl)
  have lp1 : ∀ (k i cs sl : Nat) (U : BV) (hU : BInv B U) (_ : i + k = 10) (_ : cs + 12 * k ≤ 132) (_ : sl + 72 * k ≤ 792) (H : Heap) (locs : List Loc), va_P D vwCl (wB cy ad U ++ wB cy bd U) H → va_D A (wB cy ad U ++ wB cy bd U) → va_S A s.heap H locs → ∀ ls : Array Slot, lv_has ls 5 [(4, .int (nI i)), (3, .int (1 : Int32)), (0, .ref (ad 0 0 0)), (1, .ref (bd 0 0 0)), (2, .int x)] → W pp l e rL_alike s m ([.ref (ad 0 0 0), .ref (bd 0 0 0), .int x] : List Value).toArray below meth c H locs cs sl Q (F0 m 103 ls []) := by
    intro k
    induction k with
    | zero =>
      intro i cs sl U hU hi hc hs H locs hP hD hS ls hl
      have hi9 : i = 10 := by omega
      subst hi9
      refine lv_iload hx hb dL_alike_103 (lv_at hl 0 rfl) ?_
      refine lv_bipush (v := 10) hx hb dL_alike_105 (by decide) ?_
      refine lv_icmp_ge (tgt := 176) hx hb dL_alike_107 (by decide) (fun c_12 => ?_) (fun c_12 => absurd (show (10 : Int32) ≤ nI 10 from Int32.le_refl _) c_12)
      refine W.widen (k := 132) (n := 792) (by omega) (by omega) ?_
      exact ex1 U hU H locs hP hD hS ls (lv_sub hl [0, 1, 2, 3, 4] rfl)
    | succ k ih =>
      intro i cs sl U hU hi hc hs H locs hP hD hS ls hl
      refine lv_iload hx hb dL_alike_103 (lv_at hl 0 rfl) ?_
      refine lv_bipush (v := 10) hx hb dL_alike_105 (by decide) ?_
      refine lv_icmp_ge (tgt := 176) hx hb dL_alike_107 (by decide) (fun c_13 => absurd c_13 (nI_ge (a := i) (b := 10) (by omega) (by decide))) (fun c_13 => ?_)
      refine lv_iload_n hx hb dL_alike_110 rfl (lv_at hl 1 rfl) ?_
      refine lv_if_eq (tgt := 176) hx hb dL_alike_111 (by decide) (fun c_14 => absurd c_14 (by decide)) (fun c_14 => ?_)
      refine lv_aload_n hx hb dL_alike_114 rfl (lv_at hl 2 rfl) ?_
      refine lv_iconst (v := 1) hx hb dL_alike_115 (by decide) ?_
      refine lv_iload hx hb dL_alike_116 (lv_at hl 0 rfl) ?_
      refine lv_iconst (v := 0) hx hb dL_alike_118 (by decide) ?_
      refine lv_iconst (v := 0) hx hb dL_alike_119 (by decide) ?_
      refine cl_i (va_runS (As := [.ref (ad 0 0 0), .int (1 : Int32), .int (nI i), .int (0 : Int32), .int (0 : Int32)]) (rest := []) ⟨hx, hb, hml, hown, hts⟩ (cca l hlt D cy ad (B := B) (V := U) (V' := U) hU (what := (1 : Int32)) (a := (nI i)) (b := (0 : Int32)) (c := (0 : Int32)) (r := (r_L_call U (1 : Int32) (nI i) (0 : Int32) (0 : Int32))) rfl (wc_1 U (nI i) (0 : Int32) (0 : Int32)) (n15 (by decide)) H.size) (va_cwS 5 hts gL_alike_L_call rfl rfl rfl (by decide +kernel) ⟨Nat.le_of_ble_eq_true rfl, Nat.le_of_ble_eq_true rfl⟩) ⟨blU, preU hP hD (List.Perm.refl _) hK hE hS hA⟩ rfl rfl hl.1 rfl (lv_room (Nat.le_of_ble_eq_true rfl)) dL_alike_120 ⟨(show (cs + 3) ≤ 780 by omega), (show (sl + 18) ≤ 4680 by omega)⟩) hP hD (List.Perm.refl _) hS hA (fun H locs hP hD hS => ?_)
      have hP : va_P D vwCl (wB cy ad U ++ wB cy bd U) H := vP_perm hP (List.Perm.refl _)
      have hD : va_D A (wB cy ad U ++ wB cy bd U) := vD_perm hD (List.Perm.refl _)
      refine lv_aload_n hx hb dL_alike_123 rfl (lv_at hl 3 rfl) ?_
      refine lv_iconst (v := 1) hx hb dL_alike_124 (by decide) ?_
      refine lv_iload hx hb dL_alike_125 (lv_at hl 0 rfl) ?_
      refine lv_iconst (v := 0) hx hb dL_alike_127 (by decide) ?_
      refine lv_iconst (v := 0) hx hb dL_alike_128 (by decide) ?_
      refine cl_i (va_runS (As := [.ref (bd 0 0 0), .int (1 : Int32), .int (nI i), .int (0 : Int32), .int (0 : Int32)]) (rest := [.int (r_L_call U (1 : Int32) (nI i) (0 : Int32) (0 : Int32))]) ⟨hx, hb, hml, hown, hts⟩ (cca l hlt D cy bd (B := B) (V := U) (V' := U) hU (what := (1 : Int32)) (a := (nI i)) (b := (0 : Int32)) (c := (0 : Int32)) (r := (r_L_call U (1 : Int32) (nI i) (0 : Int32) (0 : Int32))) rfl (wc_1 U (nI i) (0 : Int32) (0 : Int32)) (n15 (by decide)) H.size) (va_cwS 5 hts gL_alike_L_call rfl rfl rfl (by decide +kernel) ⟨Nat.le_of_ble_eq_true rfl, Nat.le_of_ble_eq_true rfl⟩) ⟨blU, preU hP hD List.perm_append_comm hK hE hS hA⟩ rfl rfl hl.1 rfl (lv_room (Nat.le_of_ble_eq_true rfl)) dL_alike_129 ⟨(show (cs + 6) ≤ 780 by omega), (show (sl + 36) ≤ 4680 by omega)⟩) hP hD List.perm_append_comm hS hA (fun H locs hP hD hS => ?_)
      have hP : va_P D vwCl (wB cy ad U ++ wB cy bd U) H := vP_perm hP List.perm_append_comm
      have hD : va_D A (wB cy ad U ++ wB cy bd U) := vD_perm hD List.perm_append_comm
      refine lv_icmp_ne (tgt := 168) hx hb dL_alike_132 (by decide) (fun c_15 => absurd rfl c_15) (fun c_15 => ?_)
      refine lv_aload_n hx hb dL_alike_135 rfl (lv_at hl 2 rfl) ?_
      refine lv_iconst (v := 2) hx hb dL_alike_136 (by decide) ?_
      refine lv_iload_n hx hb dL_alike_137 rfl (lv_at hl 4 rfl) ?_
      refine lv_iconst (v := 2) hx hb dL_alike_138 (by decide) ?_
      refine lv_irem hx hb dL_alike_139 (by decide) ?_
      refine lv_iload hx hb dL_alike_140 (lv_at hl 0 rfl) ?_
      refine lv_iconst (v := 5) hx hb dL_alike_142 (by decide) ?_
      refine lv_irem hx hb dL_alike_143 (by decide) ?_
      refine lv_iconst (v := 0) hx hb dL_alike_144 (by decide) ?_
      refine cl_i (va_runS (As := [.ref (ad 0 0 0), .int (2 : Int32), .int (x - x / (2 : Int32) * (2 : Int32)), .int ((nI i) - (nI i) / (5 : Int32) * (5 : Int32)), .int (0 : Int32)]) (rest := []) ⟨hx, hb, hml, hown, hts⟩ (cca l hlt D cy ad (B := B) (V := U) (V' := U) hU (what := (2 : Int32)) (a := (x - x / (2 : Int32) * (2 : Int32))) (b := ((nI i) - (nI i) / (5 : Int32) * (5 : Int32))) (c := (0 : Int32)) (r := (r_L_call U (2 : Int32) (x - x / (2 : Int32) * (2 : Int32)) ((nI i) - (nI i) / (5 : Int32) * (5 : Int32)) (0 : Int32))) rfl (wc_2 U (x - x / (2 : Int32) * (2 : Int32)) ((nI i) - (nI i) / (5 : Int32) * (5 : Int32)) (0 : Int32)) (n15 (by decide)) H.size) (va_cwS 5 hts gL_alike_L_call rfl rfl rfl (by decide +kernel) ⟨Nat.le_of_ble_eq_true rfl, Nat.le_of_ble_eq_true rfl⟩) ⟨blU, preU hP hD (List.Perm.refl _) hK hE hS hA⟩ rfl rfl hl.1 rfl (lv_room (Nat.le_of_ble_eq_true rfl)) dL_alike_145 ⟨(show (cs + 9) ≤ 780 by omega), (show (sl + 54) ≤ 4680 by omega)⟩) hP hD (List.Perm.refl _) hS hA (fun H locs hP hD hS => ?_)
      have hP : va_P D vwCl (wB cy ad U ++ wB cy bd U) H := vP_perm hP (List.Perm.refl _)
      have hD : va_D A (wB cy ad U ++ wB cy bd U) := vD_perm hD (List.Perm.refl _)
      refine lv_aload_n hx hb dL_alike_148 rfl (lv_at hl 3 rfl) ?_
      refine lv_iconst (v := 2) hx hb dL_alike_149 (by decide) ?_
      refine lv_iload_n hx hb dL_alike_150 rfl (lv_at hl 4 rfl) ?_
      refine lv_iconst (v := 2) hx hb dL_alike_151 (by decide) ?_
      refine lv_irem hx hb dL_alike_152 (by decide) ?_
      refine lv_iload hx hb dL_alike_153 (lv_at hl 0 rfl) ?_
      refine lv_iconst (v := 5) hx hb dL_alike_155 (by decide) ?_
      refine lv_irem hx hb dL_alike_156 (by decide) ?_
      refine lv_iconst (v := 0) hx hb dL_alike_157 (by decide) ?_
      refine cl_i (va_runS (As := [.ref (bd 0 0 0), .int (2 : Int32), .int (x - x / (2 : Int32) * (2 : Int32)), .int ((nI i) - (nI i) / (5 : Int32) * (5 : Int32)), .int (0 : Int32)]) (rest := [.int (r_L_call U (2 : Int32) (x - x / (2 : Int32) * (2 : Int32)) ((nI i) - (nI i) / (5 : Int32) * (5 : Int32)) (0 : Int32))]) ⟨hx, hb, hml, hown, hts⟩ (cca l hlt D cy bd (B := B) (V := U) (V' := U) hU (what := (2 : Int32)) (a := (x - x / (2 : Int32) * (2 : Int32))) (b := ((nI i) - (nI i) / (5 : Int32) * (5 : Int32))) (c := (0 : Int32)) (r := (r_L_call U (2 : Int32) (x - x / (2 : Int32) * (2 : Int32)) ((nI i) - (nI i) / (5 : Int32) * (5 : Int32)) (0 : Int32))) rfl (wc_2 U (x - x / (2 : Int32) * (2 : Int32)) ((nI i) - (nI i) / (5 : Int32) * (5 : Int32)) (0 : Int32)) (n15 (by decide)) H.size) (va_cwS 5 hts gL_alike_L_call rfl rfl rfl (by decide +kernel) ⟨Nat.le_of_ble_eq_true rfl, Nat.le_of_ble_eq_true rfl⟩) ⟨blU, preU hP hD List.perm_append_comm hK hE hS hA⟩ rfl rfl hl.1 rfl (lv_room (Nat.le_of_ble_eq_true rfl)) dL_alike_158 ⟨(show (cs + 12) ≤ 780 by omega), (show (sl + 72) ≤ 4680 by omega)⟩) hP hD List.perm_append_comm hS hA (fun H locs hP hD hS => ?_)
      have hP : va_P D vwCl (wB cy ad U ++ wB cy bd U) H := vP_perm hP List.perm_append_comm
      have hD : va_D A (wB cy ad U ++ wB cy bd U) := vD_perm hD List.perm_append_comm
      refine lv_icmp_ne (tgt := 168) hx hb dL_alike_161 (by decide) (fun c_16 => absurd rfl c_16) (fun c_16 => ?_)
      refine lv_iconst (v := 1) hx hb dL_alike_164 (by decide) ?_
      refine lv_goto (tgt := 169) hx hb dL_alike_165 (by decide) ?_
      refine lv_istore_n (lv' := [(3, .int (1 : Int32)), (4, .int (nI i)), (0, .ref (ad 0 0 0)), (1, .ref (bd 0 0 0)), (2, .int x)]) hx hb dL_alike_169 rfl hl (by decide) rfl (fun ls hl => ?_)
      refine lv_iinc (v := (nI (i + 1))) (lv' := [(4, .int (nI (i + 1))), (3, .int (1 : Int32)), (0, .ref (ad 0 0 0)), (1, .ref (bd 0 0 0)), (2, .int x)]) hx hb dL_alike_170 hl (k := 1) rfl (nI_1 i) (by decide) rfl (fun ls hl => ?_)
      refine lv_goto (tgt := 103) hx hb dL_alike_173 (by decide) ?_
      exact ih (i + 1) (cs + 12) (sl + 72) U hU (by omega) (by omega) (by omega) H locs hP hD hS ls (lv_sub hl [0, 1, 2, 3, 4] rfl)
  refine lv_aload_n hx hb dL_alike_0 rfl (lv_at hl 0 rfl) ?_
  refine cl_i (va_runV (As := []) (rest := []) ⟨hx, hb, hml, hown, hts⟩ (ci_eq (c_X5_errorPosition l D cy ad V H.size hB.len hB.lg) rfl hV1) (cwV 0 hts gL_alike_X5_errorPosition rfl rfl rfl (by decide +kernel) ⟨Nat.le_of_ble_eq_true rfl, Nat.le_of_ble_eq_true rfl⟩) ⟨blU, va_recv hK (vP_perm hP (List.Perm.refl _)) (ci := 4) (q0 := 0) rfl rfl, preU hP hD (List.Perm.refl _) hK hE hS hA⟩ rfl rfl hl.1 rfl (lv_room (Nat.le_of_ble_eq_true rfl)) dL_alike_1 ⟨Nat.le_of_ble_eq_true rfl, Nat.le_of_ble_eq_true rfl⟩) hP hD (List.Perm.refl _) hS hA (fun H locs hP hD hS => ?_)
  have hP : va_P D vwCl (wB cy ad V1 ++ wB cy bd V) H := vP_perm hP (List.Perm.refl _)
  have hD : va_D A (wB cy ad V1 ++ wB cy bd V) := vD_perm hD (List.Perm.refl _)
  refine lv_aload_n hx hb dL_alike_4 rfl (lv_at hl 1 rfl) ?_
  refine cl_i (va_runV (As := []) (rest := [.int (r_X5_errorPosition V)]) ⟨hx, hb, hml, hown, hts⟩ (ci_eq (c_X5_errorPosition l D cy bd V H.size hB.len hB.lg) rfl hV1) (cwV 0 hts gL_alike_X5_errorPosition rfl rfl rfl (by decide +kernel) ⟨Nat.le_of_ble_eq_true rfl, Nat.le_of_ble_eq_true rfl⟩) ⟨blU, va_recv hK (vP_perm hP List.perm_append_comm) (ci := 4) (q0 := 0) rfl rfl, preU hP hD List.perm_append_comm hK hE hS hA⟩ rfl rfl hl.1 rfl (lv_room (Nat.le_of_ble_eq_true rfl)) dL_alike_5 ⟨Nat.le_of_ble_eq_true rfl, Nat.le_of_ble_eq_true rfl⟩) hP hD List.perm_append_comm hS hA (fun H locs hP hD hS => ?_)
  have hP : va_P D vwCl (wB cy ad V1 ++ wB cy bd V1) H := vP_perm hP List.perm_append_comm
  have hD : va_D A (wB cy ad V1 ++ wB cy bd V1) := vD_perm hD List.perm_append_comm
  refine lv_icmp_ne (tgt := 98) hx hb dL_alike_8 (by decide) (fun c_17 => absurd rfl c_17) (fun c_17 => ?_)
  refine lv_aload_n hx hb dL_alike_11 rfl (lv_at hl 0 rfl) ?_
  refine cl_i (va_runV (As := []) (rest := []) ⟨hx, hb, hml, hown, hts⟩ (ci_eq (c_X5_branches l D cy ad V1 H.size hB1.len hB1.lg) rfl hV2) (cwV 0 hts gL_alike_X5_branches rfl rfl rfl (by decide +kernel) ⟨Nat.le_of_ble_eq_true rfl, Nat.le_of_ble_eq_true rfl⟩) ⟨blU, va_recv hK (vP_perm hP (List.Perm.refl _)) (ci := 4) (q0 := 0) rfl rfl, preU hP hD (List.Perm.refl _) hK hE hS hA⟩ rfl rfl hl.1 rfl (lv_room (Nat.le_of_ble_eq_true rfl)) dL_alike_12 ⟨Nat.le_of_ble_eq_true rfl, Nat.le_of_ble_eq_true rfl⟩) hP hD (List.Perm.refl _) hS hA (fun H locs hP hD hS => ?_)
  have hP : va_P D vwCl (wB cy ad V2 ++ wB cy bd V1) H := vP_perm hP (List.Perm.refl _)
  have hD : va_D A (wB cy ad V2 ++ wB cy bd V1) := vD_perm hD (List.Perm.refl _)
  refine lv_aload_n hx hb dL_alike_15 rfl (lv_at hl 1 rfl) ?_
  refine cl_i (va_runV (As := []) (rest := [.int (r_X5_branches V1)]) ⟨hx, hb, hml, hown, hts⟩ (ci_eq (c_X5_branches l D cy bd V1 H.size hB1.len hB1.lg) rfl hV2) (cwV 0 hts gL_alike_X5_branches rfl rfl rfl (by decide +kernel) ⟨Nat.le_of_ble_eq_true rfl, Nat.le_of_ble_eq_true rfl⟩) ⟨blU, va_recv hK (vP_perm hP List.perm_append_comm) (ci := 4) (q0 := 0) rfl rfl, preU hP hD List.perm_append_comm hK hE hS hA⟩ rfl rfl hl.1 rfl (lv_room (Nat.le_of_ble_eq_true rfl)) dL_alike_16 ⟨Nat.le_of_ble_eq_true rfl, Nat.le_of_ble_eq_true rfl⟩) hP hD List.perm_append_comm hS hA (fun H locs hP hD hS => ?_)
  have hP : va_P D vwCl (wB cy ad V2 ++ wB cy bd V2) H := vP_perm hP List.perm_append_comm
  have hD : va_D A (wB cy ad V2 ++ wB cy bd V2) := vD_perm hD List.perm_append_comm
  refine lv_icmp_ne (tgt := 98) hx hb dL_alike_19 (by decide) (fun c_18 => absurd rfl c_18) (fun c_18 => ?_)
  refine lv_aload_n hx hb dL_alike_22 rfl (lv_at hl 0 rfl) ?_
  refine cl_i (va_runV (As := []) (rest := []) ⟨hx, hb, hml, hown, hts⟩ (ci_eq (c_X5_wouldBring l D cy ad V2 H.size hB2.sz hB2.len hB2.lg) rfl hV3) (cwV 0 hts gL_alike_X5_wouldBring rfl rfl rfl (by decide +kernel) ⟨Nat.le_of_ble_eq_true rfl, Nat.le_of_ble_eq_true rfl⟩) ⟨blU, va_recv hK (vP_perm hP (List.Perm.refl _)) (ci := 4) (q0 := 0) rfl rfl, preU hP hD (List.Perm.refl _) hK hE hS hA⟩ rfl rfl hl.1 rfl (lv_room (Nat.le_of_ble_eq_true rfl)) dL_alike_23 ⟨Nat.le_of_ble_eq_true rfl, Nat.le_of_ble_eq_true rfl⟩) hP hD (List.Perm.refl _) hS hA (fun H locs hP hD hS => ?_)
  have hP : va_P D vwCl (wB cy ad V3 ++ wB cy bd V2) H := vP_perm hP (List.Perm.refl _)
  have hD : va_D A (wB cy ad V3 ++ wB cy bd V2) := vD_perm hD (List.Perm.refl _)
  refine lv_aload_n hx hb dL_alike_26 rfl (lv_at hl 1 rfl) ?_
  refine cl_i (va_runV (As := []) (rest := [.int (r_X5_wouldBring V2)]) ⟨hx, hb, hml, hown, hts⟩ (ci_eq (c_X5_wouldBring l D cy bd V2 H.size hB2.sz hB2.len hB2.lg) rfl hV3) (cwV 0 hts gL_alike_X5_wouldBring rfl rfl rfl (by decide +kernel) ⟨Nat.le_of_ble_eq_true rfl, Nat.le_of_ble_eq_true rfl⟩) ⟨blU, va_recv hK (vP_perm hP List.perm_append_comm) (ci := 4) (q0 := 0) rfl rfl, preU hP hD List.perm_append_comm hK hE hS hA⟩ rfl rfl hl.1 rfl (lv_room (Nat.le_of_ble_eq_true rfl)) dL_alike_27 ⟨Nat.le_of_ble_eq_true rfl, Nat.le_of_ble_eq_true rfl⟩) hP hD List.perm_append_comm hS hA (fun H locs hP hD hS => ?_)
  have hP : va_P D vwCl (wB cy ad V3 ++ wB cy bd V3) H := vP_perm hP List.perm_append_comm
  have hD : va_D A (wB cy ad V3 ++ wB cy bd V3) := vD_perm hD List.perm_append_comm
  refine lv_icmp_ne (tgt := 98) hx hb dL_alike_30 (by decide) (fun c_19 => absurd rfl c_19) (fun c_19 => ?_)
  refine lv_aload_n hx hb dL_alike_33 rfl (lv_at hl 0 rfl) ?_
  refine cl_i (va_runV (As := []) (rest := []) ⟨hx, hb, hml, hown, hts⟩ (c_X5_worst l D cy ad V3 H.size ) (cwV 0 hts gL_alike_X5_worst rfl rfl rfl (by decide +kernel) ⟨Nat.le_of_ble_eq_true rfl, Nat.le_of_ble_eq_true rfl⟩) ⟨blU, va_recv hK (vP_perm hP (List.Perm.refl _)) (ci := 4) (q0 := 0) rfl rfl, preU hP hD (List.Perm.refl _) hK hE hS hA⟩ rfl rfl hl.1 rfl (lv_room (Nat.le_of_ble_eq_true rfl)) dL_alike_34 ⟨Nat.le_of_ble_eq_true rfl, Nat.le_of_ble_eq_true rfl⟩) hP hD (List.Perm.refl _) hS hA (fun H locs hP hD hS => ?_)
  have hP : va_P D vwCl (wB cy ad V3 ++ wB cy bd V3) H := vP_perm hP (List.Perm.refl _)
  have hD : va_D A (wB cy ad V3 ++ wB cy bd V3) := vD_perm hD (List.Perm.refl _)
  refine lv_aload_n hx hb dL_alike_37 rfl (lv_at hl 1 rfl) ?_
  refine cl_i (va_runV (As := []) (rest := [.int (r_X5_worst V3)]) ⟨hx, hb, hml, hown, hts⟩ (c_X5_worst l D cy bd V3 H.size ) (cwV 0 hts gL_alike_X5_worst rfl rfl rfl (by decide +kernel) ⟨Nat.le_of_ble_eq_true rfl, Nat.le_of_ble_eq_true rfl⟩) ⟨blU, va_recv hK (vP_perm hP List.perm_append_comm) (ci := 4) (q0 := 0) rfl rfl, preU hP hD List.perm_append_comm hK hE hS hA⟩ rfl rfl hl.1 rfl (lv_room (Nat.le_of_ble_eq_true rfl)) dL_alike_38 ⟨Nat.le_of_ble_eq_true rfl, Nat.le_of_ble_eq_true rfl⟩) hP hD List.perm_append_comm hS hA (fun H locs hP hD hS => ?_)
  have hP : va_P D vwCl (wB cy ad V3 ++ wB cy bd V3) H := vP_perm hP List.perm_append_comm
  have hD : va_D A (wB cy ad V3 ++ wB cy bd V3) := vD_perm hD List.perm_append_comm
  refine lv_icmp_ne (tgt := 98) hx hb dL_alike_41 (by decide) (fun c_20 => absurd rfl c_20) (fun c_20 => ?_)
  refine lv_aload_n hx hb dL_alike_44 rfl (lv_at hl 0 rfl) ?_
  refine lv_bipush (v := 13) hx hb dL_alike_45 (by decide) ?_
  refine lv_iload_n hx hb dL_alike_47 rfl (lv_at hl 2 rfl) ?_
  refine lv_iconst (v := 2) hx hb dL_alike_48 (by decide) ?_
  refine lv_irem hx hb dL_alike_49 (by decide) ?_
  refine lv_iconst (v := 0) hx hb dL_alike_50 (by decide) ?_
  refine lv_iconst (v := 0) hx hb dL_alike_51 (by decide) ?_
  refine cl_i (va_runS (As := [.ref (ad 0 0 0), .int (13 : Int32), .int (x - x / (2 : Int32) * (2 : Int32)), .int (0 : Int32), .int (0 : Int32)]) (rest := []) ⟨hx, hb, hml, hown, hts⟩ (cca l hlt D cy ad (B := B) (V := V3) (V' := V4) hB3 (what := (13 : Int32)) (a := (x - x / (2 : Int32) * (2 : Int32))) (b := (0 : Int32)) (c := (0 : Int32)) (r := (r_L_call V3 (13 : Int32) (x - x / (2 : Int32) * (2 : Int32)) (0 : Int32) (0 : Int32))) rfl hV4 (n15 (by decide)) H.size) (va_cwS 5 hts gL_alike_L_call rfl rfl rfl (by decide +kernel) ⟨Nat.le_of_ble_eq_true rfl, Nat.le_of_ble_eq_true rfl⟩) ⟨blU, preU hP hD (List.Perm.refl _) hK hE hS hA⟩ rfl rfl hl.1 rfl (lv_room (Nat.le_of_ble_eq_true rfl)) dL_alike_52 ⟨Nat.le_of_ble_eq_true rfl, Nat.le_of_ble_eq_true rfl⟩) hP hD (List.Perm.refl _) hS hA (fun H locs hP hD hS => ?_)
  have hP : va_P D vwCl (wB cy ad V4 ++ wB cy bd V3) H := vP_perm hP (List.Perm.refl _)
  have hD : va_D A (wB cy ad V4 ++ wB cy bd V3) := vD_perm hD (List.Perm.refl _)
  refine lv_aload_n hx hb dL_alike_55 rfl (lv_at hl 1 rfl) ?_
  refine lv_bipush (v := 13) hx hb dL_alike_56 (by decide) ?_
  refine lv_iload_n hx hb dL_alike_58 rfl (lv_at hl 2 rfl) ?_
  refine lv_iconst (v := 2) hx hb dL_alike_59 (by decide) ?_
  refine lv_irem hx hb dL_alike_60 (by decide) ?_
  refine lv_iconst (v := 0) hx hb dL_alike_61 (by decide) ?_
  refine lv_iconst (v := 0) hx hb dL_alike_62 (by decide) ?_
  refine cl_i (va_runS (As := [.ref (bd 0 0 0), .int (13 : Int32), .int (x - x / (2 : Int32) * (2 : Int32)), .int (0 : Int32), .int (0 : Int32)]) (rest := [.int (r_L_call V3 (13 : Int32) (x - x / (2 : Int32) * (2 : Int32)) (0 : Int32) (0 : Int32))]) ⟨hx, hb, hml, hown, hts⟩ (cca l hlt D cy bd (B := B) (V := V3) (V' := V4) hB3 (what := (13 : Int32)) (a := (x - x / (2 : Int32) * (2 : Int32))) (b := (0 : Int32)) (c := (0 : Int32)) (r := (r_L_call V3 (13 : Int32) (x - x / (2 : Int32) * (2 : Int32)) (0 : Int32) (0 : Int32))) rfl hV4 (n15 (by decide)) H.size) (va_cwS 5 hts gL_alike_L_call rfl rfl rfl (by decide +kernel) ⟨Nat.le_of_ble_eq_true rfl, Nat.le_of_ble_eq_true rfl⟩) ⟨blU, preU hP hD List.perm_append_comm hK hE hS hA⟩ rfl rfl hl.1 rfl (lv_room (Nat.le_of_ble_eq_true rfl)) dL_alike_63 ⟨Nat.le_of_ble_eq_true rfl, Nat.le_of_ble_eq_true rfl⟩) hP hD List.perm_append_comm hS hA (fun H locs hP hD hS => ?_)
  have hP : va_P D vwCl (wB cy ad V4 ++ wB cy bd V4) H := vP_perm hP List.perm_append_comm
  have hD : va_D A (wB cy ad V4 ++ wB cy bd V4) := vD_perm hD List.perm_append_comm
  refine lv_icmp_ne (tgt := 98) hx hb dL_alike_66 (by decide) (fun c_21 => absurd rfl c_21) (fun c_21 => ?_)
  refine lv_aload_n hx hb dL_alike_69 rfl (lv_at hl 0 rfl) ?_
  refine lv_bipush (v := 14) hx hb dL_alike_70 (by decide) ?_
  refine lv_iload_n hx hb dL_alike_72 rfl (lv_at hl 2 rfl) ?_
  refine lv_iconst (v := 2) hx hb dL_alike_73 (by decide) ?_
  refine lv_irem hx hb dL_alike_74 (by decide) ?_
  refine lv_iconst (v := 0) hx hb dL_alike_75 (by decide) ?_
  refine lv_iconst (v := 0) hx hb dL_alike_76 (by decide) ?_
  refine cl_i (va_runS (As := [.ref (ad 0 0 0), .int (14 : Int32), .int (x - x / (2 : Int32) * (2 : Int32)), .int (0 : Int32), .int (0 : Int32)]) (rest := []) ⟨hx, hb, hml, hown, hts⟩ (cca l hlt D cy ad (B := B) (V := V4) (V' := V5) hB4 (what := (14 : Int32)) (a := (x - x / (2 : Int32) * (2 : Int32))) (b := (0 : Int32)) (c := (0 : Int32)) (r := (r_L_call V4 (14 : Int32) (x - x / (2 : Int32) * (2 : Int32)) (0 : Int32) (0 : Int32))) rfl hV5 (n15 (by decide)) H.size) (va_cwS 5 hts gL_alike_L_call rfl rfl rfl (by decide +kernel) ⟨Nat.le_of_ble_eq_true rfl, Nat.le_of_ble_eq_true rfl⟩) ⟨blU, preU hP hD (List.Perm.refl _) hK hE hS hA⟩ rfl rfl hl.1 rfl (lv_room (Nat.le_of_ble_eq_true rfl)) dL_alike_77 ⟨Nat.le_of_ble_eq_true rfl, Nat.le_of_ble_eq_true rfl⟩) hP hD (List.Perm.refl _) hS hA (fun H locs hP hD hS => ?_)
  have hP : va_P D vwCl (wB cy ad V5 ++ wB cy bd V4) H := vP_perm hP (List.Perm.refl _)
  have hD : va_D A (wB cy ad V5 ++ wB cy bd V4) := vD_perm hD (List.Perm.refl _)
  refine lv_aload_n hx hb dL_alike_80 rfl (lv_at hl 1 rfl) ?_
  refine lv_bipush (v := 14) hx hb dL_alike_81 (by decide) ?_
  refine lv_iload_n hx hb dL_alike_83 rfl (lv_at hl 2 rfl) ?_
  refine lv_iconst (v := 2) hx hb dL_alike_84 (by decide) ?_
  refine lv_irem hx hb dL_alike_85 (by decide) ?_
  refine lv_iconst (v := 0) hx hb dL_alike_86 (by decide) ?_
  refine lv_iconst (v := 0) hx hb dL_alike_87 (by decide) ?_
  refine cl_i (va_runS (As := [.ref (bd 0 0 0), .int (14 : Int32), .int (x - x / (2 : Int32) * (2 : Int32)), .int (0 : Int32), .int (0 : Int32)]) (rest := [.int (r_L_call V4 (14 : Int32) (x - x / (2 : Int32) * (2 : Int32)) (0 : Int32) (0 : Int32))]) ⟨hx, hb, hml, hown, hts⟩ (cca l hlt D cy bd (B := B) (V := V4) (V' := V5) hB4 (what := (14 : Int32)) (a := (x - x / (2 : Int32) * (2 : Int32))) (b := (0 : Int32)) (c := (0 : Int32)) (r := (r_L_call V4 (14 : Int32) (x - x / (2 : Int32) * (2 : Int32)) (0 : Int32) (0 : Int32))) rfl hV5 (n15 (by decide)) H.size) (va_cwS 5 hts gL_alike_L_call rfl rfl rfl (by decide +kernel) ⟨Nat.le_of_ble_eq_true rfl, Nat.le_of_ble_eq_true rfl⟩) ⟨blU, preU hP hD List.perm_append_comm hK hE hS hA⟩ rfl rfl hl.1 rfl (lv_room (Nat.le_of_ble_eq_true rfl)) dL_alike_88 ⟨Nat.le_of_ble_eq_true rfl, Nat.le_of_ble_eq_true rfl⟩) hP hD List.perm_append_comm hS hA (fun H locs hP hD hS => ?_)
  have hP : va_P D vwCl (wB cy ad V5 ++ wB cy bd V5) H := vP_perm hP List.perm_append_comm
  have hD : va_D A (wB cy ad V5 ++ wB cy bd V5) := vD_perm hD List.perm_append_comm
  refine lv_icmp_ne (tgt := 98) hx hb dL_alike_91 (by decide) (fun c_22 => absurd rfl c_22) (fun c_22 => ?_)
  refine lv_iconst (v := 1) hx hb dL_alike_94 (by decide) ?_
  refine lv_goto (tgt := 99) hx hb dL_alike_95 (by decide) ?_
  refine lv_istore_n (lv' := [(3, .int (1 : Int32)), (0, .ref (ad 0 0 0)), (1, .ref (bd 0 0 0)), (2, .int x)]) hx hb dL_alike_99 rfl hl (by decide) rfl (fun ls hl => ?_)
  refine lv_iconst (v := 0) hx hb dL_alike_100 (by decide) ?_
  refine lv_istore (lv' := [(4, .int (0 : Int32)), (3, .int (1 : Int32)), (0, .ref (ad 0 0 0)), (1, .ref (bd 0 0 0)), (2, .int x)]) hx hb dL_alike_101 hl (by decide) rfl (fun ls hl => ?_)
  exact lp1 10 0 12 72 V5 hB5 (by omega) (by omega) (by omega) H locs hP hD hS ls (lv_sub hl [0, 1, 2, 3, 4] rfl)
