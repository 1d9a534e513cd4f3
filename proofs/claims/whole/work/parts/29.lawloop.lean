/-! THE LAW, 3: its loop, its start. -/
section LAWLOOP
variable {X : XC} {l : Launch} {D : va_G} {t : Nat → ClassId} {b L : Nat} {xs : Nat → Int32} {a m : Nat → Nat}
theorem law_loop (C : XK X l D t cL_law RL room_1 4) (S : XS X b L xs) (hL : L ≤ 2048) (hend : ∀ (ws : va_W) (lv : List (Nat × Value)), XW X 58 1098 ws lv 824 [.int 1]) : ∀ (fu i : Nat), i ≤ L → L < i + fu → ∀ σ, LWS X t a m b i σ 18 := by
  intro fu
  induction fu with
  | zero => intro i h1 h2; exact absurd h2 (by omega)
  | succ fu ih =>
    intro i hiL hfu σ I F Lg I' F' hI hX hM
    refine xiload_n C 0 rfl dL_law_18 ?_
    refine xaload_n C 3 rfl dL_law_19 ?_
    refine xslen C S dL_law_20 ?_
    refine xiconst (v := 4) C dL_law_21 (by decide) ?_
    refine xisub C dL_law_22 ?_
    refine xicmp_gt C 823 dL_law_23 (by decide) (fun h => ?_) (fun h => ?_)
    · refine xiconst (v := 1) C dL_law_823 (by decide) ?_
      exact hend _ _
    · have hi : i + 4 ≤ L := law_in hiL hL h
      have hN : ∀ σ, LWS X t a m b i σ 817 := by
        intro σ I F Lg I' F' hI hX hM
        refine xiinc (v := nI (i + 4)) (lv' := [(3, .int (nI (i + 4))), (2, .ref (m 0)), (1, .ref (a 0)), (0, .ref b)]) C 0 rfl dL_law_817 (nI_add i 4) (by decide) rfl ?_
        refine xgoto C 18 dL_law_820 (by decide) ?_
        exact ih (i + 4) hi (by omega) σ I F Lg I' F' hI hX hM
      refine xaload_n C 3 rfl dL_law_26 ?_
      refine xiload_n C 0 rfl dL_law_27 ?_
      refine xsld C S (by omega) hL dL_law_28 ?_
      refine xbipush (v := 31) C dL_law_29 (by decide) ?_
      refine xiand C dL_law_31 ?_
      obtain ⟨q, hq, e⟩ := and31 (xs i)
      refine xtopi e ?_
      rcases (show q = 0 ∨ q = 1 ∨ q = 2 ∨ q = 3 ∨ q = 4 ∨ q = 5 ∨ q = 6 ∨ q = 7 ∨ q = 8 ∨ q = 9 ∨ q = 10 ∨ q = 11 ∨ q = 12 ∨ q = 13 ∨ q = 14 ∨ q = 15 ∨ q = 16 ∨ q = 17 ∨ q = 18 ∨ q = 19 ∨ q = 20 ∨ q = 21 ∨ q = 22 ∨ q = 23 ∨ q = 24 ∨ (24 < q ∧ q < 32) by omega) with rfl | rfl | rfl | rfl | rfl | rfl | rfl | rfl | rfl | rfl | rfl | rfl | rfl | rfl | rfl | rfl | rfl | rfl | rfl | rfl | rfl | rfl | rfl | rfl | rfl | hq2
      · refine xtabIn C 148 dL_law_32 (off := 116) (by decide +kernel) (by decide +kernel) (by decide +kernel) (by decide) ?_
        exact lc_0 C S hi hL hN σ I F Lg I' F' hI hX hM
      · refine xtabIn C 181 dL_law_32 (off := 149) (by decide +kernel) (by decide +kernel) (by decide +kernel) (by decide) ?_
        exact lc_1 C S hi hL hN σ I F Lg I' F' hI hX hM
      · refine xtabIn C 214 dL_law_32 (off := 182) (by decide +kernel) (by decide +kernel) (by decide +kernel) (by decide) ?_
        exact lc_2 C S hi hL hN σ I F Lg I' F' hI hX hM
      · refine xtabIn C 257 dL_law_32 (off := 225) (by decide +kernel) (by decide +kernel) (by decide +kernel) (by decide) ?_
        exact lc_3 C S hi hL hN σ I F Lg I' F' hI hX hM
      · refine xtabIn C 290 dL_law_32 (off := 258) (by decide +kernel) (by decide +kernel) (by decide +kernel) (by decide) ?_
        exact lc_4 C S hi hL hN σ I F Lg I' F' hI hX hM
      · refine xtabIn C 303 dL_law_32 (off := 271) (by decide +kernel) (by decide +kernel) (by decide +kernel) (by decide) ?_
        exact lc_5 C S hi hL hN σ I F Lg I' F' hI hX hM
      · refine xtabIn C 326 dL_law_32 (off := 294) (by decide +kernel) (by decide +kernel) (by decide +kernel) (by decide) ?_
        exact lc_6 C S hi hL hN σ I F Lg I' F' hI hX hM
      · refine xtabIn C 349 dL_law_32 (off := 317) (by decide +kernel) (by decide +kernel) (by decide +kernel) (by decide) ?_
        exact lc_7 C S hi hL hN σ I F Lg I' F' hI hX hM
      · refine xtabIn C 372 dL_law_32 (off := 340) (by decide +kernel) (by decide +kernel) (by decide +kernel) (by decide) ?_
        exact lc_8 C S hi hL hN σ I F Lg I' F' hI hX hM
      · refine xtabIn C 405 dL_law_32 (off := 373) (by decide +kernel) (by decide +kernel) (by decide +kernel) (by decide) ?_
        exact lc_9 C S hi hL hN σ I F Lg I' F' hI hX hM
      · refine xtabIn C 428 dL_law_32 (off := 396) (by decide +kernel) (by decide +kernel) (by decide +kernel) (by decide) ?_
        exact lc_10 C S hi hL hN σ I F Lg I' F' hI hX hM
      · refine xtabIn C 451 dL_law_32 (off := 419) (by decide +kernel) (by decide +kernel) (by decide +kernel) (by decide) ?_
        exact lc_11 C S hi hL hN σ I F Lg I' F' hI hX hM
      · refine xtabIn C 484 dL_law_32 (off := 452) (by decide +kernel) (by decide +kernel) (by decide +kernel) (by decide) ?_
        exact lc_12 C S hi hL hN σ I F Lg I' F' hI hX hM
      · refine xtabIn C 517 dL_law_32 (off := 485) (by decide +kernel) (by decide +kernel) (by decide +kernel) (by decide) ?_
        exact lc_13 C S hi hL hN σ I F Lg I' F' hI hX hM
      · refine xtabIn C 540 dL_law_32 (off := 508) (by decide +kernel) (by decide +kernel) (by decide +kernel) (by decide) ?_
        exact lc_14 C S hi hL hN σ I F Lg I' F' hI hX hM
      · refine xtabIn C 553 dL_law_32 (off := 521) (by decide +kernel) (by decide +kernel) (by decide +kernel) (by decide) ?_
        exact lc_15 C S hi hL hN σ I F Lg I' F' hI hX hM
      · refine xtabIn C 576 dL_law_32 (off := 544) (by decide +kernel) (by decide +kernel) (by decide +kernel) (by decide) ?_
        exact lc_16 C S hi hL hN σ I F Lg I' F' hI hX hM
      · refine xtabIn C 589 dL_law_32 (off := 557) (by decide +kernel) (by decide +kernel) (by decide +kernel) (by decide) ?_
        exact lc_17 C S hi hL hN σ I F Lg I' F' hI hX hM
      · refine xtabIn C 632 dL_law_32 (off := 600) (by decide +kernel) (by decide +kernel) (by decide +kernel) (by decide) ?_
        exact lc_18 C S hi hL hN σ I F Lg I' F' hI hX hM
      · refine xtabIn C 645 dL_law_32 (off := 613) (by decide +kernel) (by decide +kernel) (by decide +kernel) (by decide) ?_
        exact lc_19 C S hi hL hN σ I F Lg I' F' hI hX hM
      · refine xtabIn C 659 dL_law_32 (off := 627) (by decide +kernel) (by decide +kernel) (by decide +kernel) (by decide) ?_
        exact lc_20 C S hi hL hN σ I F Lg I' F' hI hX hM
      · refine xtabIn C 683 dL_law_32 (off := 651) (by decide +kernel) (by decide +kernel) (by decide +kernel) (by decide) ?_
        exact lc_21 C S hi hL hN σ I F Lg I' F' hI hX hM
      · refine xtabIn C 717 dL_law_32 (off := 685) (by decide +kernel) (by decide +kernel) (by decide +kernel) (by decide) ?_
        exact lc_22 C S hi hL hN σ I F Lg I' F' hI hX hM
      · refine xtabIn C 761 dL_law_32 (off := 729) (by decide +kernel) (by decide +kernel) (by decide +kernel) (by decide) ?_
        exact lc_23 C S hi hL hN σ I F Lg I' F' hI hX hM
      · refine xtabIn C 784 dL_law_32 (off := 752) (by decide +kernel) (by decide +kernel) (by decide +kernel) (by decide) ?_
        exact lc_24 C S hi hL hN σ I F Lg I' F' hI hX hM
      · refine xtabOut C 817 dL_law_32 (Or.inr (by rw [nI_toInt (by omega)]; omega)) (by decide) ?_
        exact hN σ I F Lg I' F' hI hX hM
theorem law_start (C : XK X l D t cL_law RL room_1 4) (S : XS X b L xs) (hL : L ≤ 2048) (hend : ∀ (ws : va_W) (lv : List (Nat × Value)), XW X 58 1098 ws lv 824 [.int 1]) : XW X 0 0 [] [(0, .ref b)] 0 [] := by
  refine xnewF (fs := [.null, .null, .null, .null, .null, .null, .int 0]) (ci := 0) C rfl xin_wsX5 tyX5 tyX5_ok xcl_L_7 xit_X5 xin_X5 (fsX5) (Nat.le_of_ble_eq_true rfl) (Nat.le_of_ble_eq_true rfl) dL_law_0 (fun q0 => ?_)
  refine xdup C dL_law_3 rfl ?_
  refine xworld (ws' := [(q0, .inr (0, [.null, .null, .null, .null, .null, .null, .int 0]))] ++ []) rfl ?_
  refine xcallI (As := []) (rest := [.ref q0]) C (c_X5_init q0) xml_L_9 xim_X5_init xin_X5 rfl xco_X5_init ⟨by decide +kernel, by decide +kernel, (show (parseMethodDescriptor yX5_init.desc).map (fun d => d.parameters.length) = some 0 from by decide +kernel)⟩ ⟨Nat.le_of_ble_eq_true rfl, Nat.le_of_ble_eq_true rfl⟩ ⟨rfl, rfl⟩ ⟨Nat.le_of_ble_eq_true rfl, Nat.le_of_ble_eq_true rfl⟩ rfl (Nat.le_of_ble_eq_true rfl) dL_law_4 (fun vE wE hE => ?_)
  obtain ⟨rfl, q1, q2, q3, q4, q5, q6, r, q7, q8, q9, q10, q11, q12, q13, q14, q15, q16, q17, q18, q19, q20, rfl⟩ := hE
  obtain ⟨a, rfl, rfl, rfl, rfl, rfl, rfl, rfl, rfl, rfl, rfl, rfl, rfl, rfl, rfl, rfl, rfl, rfl, rfl, rfl, rfl, rfl, rfl⟩ := aX_ex q0 q1 q9 q12 q14 q18 q6 q13 q2 q3 q4 q5 q7 q8 q10 q11 q15 q16 q17 q19 q20 r
  refine xpick (ws' := WX a t I00 F00 (fun _ => 0)) [12, 20, 11, 8, 6, 2, 15, 7, 19, 18, 17, 16, 14, 13, 10, 9, 5, 4, 3, 1, 0, 21, 22, 23, 24, 25, 26, 27, 28, 29, 30, 31, 32, 33, 34, 35, 36, 37, 38, 39, 40, 41, 42, 43, 44] (by decide) rfl ?_
  refine xeq (st' := [.ref (a 0)]) rfl rfl rfl rfl ?_
  refine xastore_n (lv' := [(1, .ref (a 0)), (0, .ref b)]) C dL_law_7 (by decide) rfl ?_
  refine xnewF (fs := [.int 0, .null, .null, .null, .null, .null, .int 0, .null, .null, .int 0, .int 0, .int 0, .int 0, .null, .null, .null, .null, .null, .int 0, .int 0, .int 0]) (ci := 6) C rfl xin_wsX6 tyX6 tyX6_ok xcl_L_10 xit_X6 xin_X6 (fsX6) (Nat.le_of_ble_eq_true rfl) (Nat.le_of_ble_eq_true rfl) dL_law_8 (fun q0 => ?_)
  refine xdup C dL_law_11 rfl ?_
  refine xworld (ws' := [(q0, .inr (6, [.int 0, .null, .null, .null, .null, .null, .int 0, .null, .null, .int 0, .int 0, .int 0, .int 0, .null, .null, .null, .null, .null, .int 0, .int 0, .int 0]))] ++ WX a t I00 F00 (fun _ => 0)) rfl ?_
  refine xcallI (As := []) (rest := [.ref q0]) C (c_X6_init q0) xml_L_12 xim_X6_init xin_X6 rfl xco_X6_init ⟨by decide +kernel, by decide +kernel, (show (parseMethodDescriptor yX6_init.desc).map (fun d => d.parameters.length) = some 0 from by decide +kernel)⟩ ⟨Nat.le_of_ble_eq_true rfl, Nat.le_of_ble_eq_true rfl⟩ ⟨rfl, rfl⟩ ⟨Nat.le_of_ble_eq_true rfl, Nat.le_of_ble_eq_true rfl⟩ rfl (Nat.le_of_ble_eq_true rfl) dL_law_12 (fun vE wE hE => ?_)
  obtain ⟨rfl, q1, q2, q3, q4, q5, q6, q7, q8, q9, q10, q11, q12, rfl⟩ := hE
  obtain ⟨m, rfl, rfl, rfl, rfl, rfl, rfl, rfl, rfl, rfl, rfl, rfl, rfl, rfl⟩ := aM_ex q0 q1 q2 q3 q4 q5 q6 q7 q9 q10 q11 q12 q8
  refine xpick (ws' := WX a t I00 F00 (fun _ => 0) ++ WM m t I00 F00) [13, 14, 15, 16, 17, 18, 19, 20, 21, 22, 23, 24, 25, 26, 27, 28, 29, 30, 31, 32, 33, 34, 35, 36, 37, 38, 39, 40, 41, 42, 43, 44, 45, 46, 47, 48, 49, 50, 51, 52, 53, 54, 55, 56, 57, 12, 11, 10, 9, 8, 7, 6, 5, 3, 2, 1, 0, 4] (by decide) rfl ?_
  refine xeq (st' := [.ref (m 0)]) rfl rfl rfl rfl ?_
  refine xastore_n (lv' := [(2, .ref (m 0)), (1, .ref (a 0)), (0, .ref b)]) C dL_law_15 (by decide) rfl ?_
  refine xiconst (v := nI 0) C dL_law_16 (by decide) ?_
  refine xistore_n (lv' := [(3, .int (nI 0)), (2, .ref (m 0)), (1, .ref (a 0)), (0, .ref b)]) C dL_law_17 (by decide) rfl ?_
  exact law_loop C S hL hend (L + 1) 0 (Nat.zero_le L) (by omega) (freshA K0 0) I00 F00 (fun _ => 0) I00 F00 (INV_fresh WFK_0 0) RX_0 RM_0
end LAWLOOP
