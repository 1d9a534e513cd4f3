/-! The class's calls, 1: the system (written by my program parts_x5.py). -/
theorem startAnew_end {K : Cfg} {sd : Int32} {IC : Nat → Int32} {FA FB : Nat → Nat → Int32} (hW : WFK K) (hKC : CFG K IC FB) (hsd : IC 10 = sd) (h9 : IC 9 = nI 0) (hg : IC 5 = nI (bn (GoodP K))) (hH : RA (kn K) (FB 6) (hS K)) (hL : RA (kn K) (FB 7) (lS K)) (hX : ∀ q, q ≠ 12 → FA q = FB q) (hA : ∀ x, x < kn K → FA 12 x = if bn (GoodP K) = 0 then nI 0 else FB 7 x) : RX (freshA K sd) IC FA := by
  refine ⟨hKC.of (fun _ _ => rfl) (fun q hq => hX q (by omega)), hsd, fun p hp => ?_, h9, fun h => by cases h, hg, by rw [hX 6 (by decide)]; exact hH, by rw [hX 7 (by decide)]; exact hL⟩
  rw [hA p hp]
  rcases Classical.em (GoodP K) with h | h
  · rw [ci_t h, bn_t h, if_neg (by decide)]; exact hL p hp
  · rw [ci_f h, bn_f h, if_pos rfl]; exact ⟨rfl, by omega⟩
theorem boxN {x : Int32} {a b : Nat} (ha : a < 100) (hb : b < 100) (h1 : ¬ x < nI a) (h2 : ¬ nI b < x) : ∃ q, a ≤ q ∧ q ≤ b ∧ x = nI q := by
  have h3 := Int32.le_iff_toInt_le.mp (Int32.not_lt.mp h1)
  have h4 := Int32.le_iff_toInt_le.mp (Int32.not_lt.mp h2)
  rw [nI_toInt (by omega)] at h3 h4
  refine ⟨x.toInt.toNat, by omega, by omega, ?_⟩
  apply Int32.toInt_inj.mp
  rw [nI_toInt (by omega)]
  omega
theorem box15 {x : Int32} (h1 : ¬ x < 1) (h2 : ¬ 5 < x) : ∃ q, 1 ≤ q ∧ q ≤ 5 ∧ x = nI q := boxN (a := 1) (b := 5) (by decide) (by decide) h1 h2
theorem box19 {x : Int32} (h1 : ¬ x < 1) (h2 : ¬ 9 < x) : ∃ q, 1 ≤ q ∧ q ≤ 9 ∧ x = nI q := boxN (a := 1) (b := 9) (by decide) (by decide) h1 h2
theorem box01 {x : Int32} (h1 : ¬ x < 0) (h2 : ¬ 1 < x) : ∃ q, q ≤ 1 ∧ x = nI q := by
  obtain ⟨q, _, h3, h4⟩ := boxN (a := 0) (b := 1) (by decide) (by decide) h1 h2
  exact ⟨q, h3, h4⟩
theorem box02 {x : Int32} (h1 : ¬ x < 0) (h2 : ¬ 2 < x) : ∃ q, q ≤ 2 ∧ x = nI q := by
  obtain ⟨q, _, h3, h4⟩ := boxN (a := 0) (b := 2) (by decide) (by decide) h1 h2
  exact ⟨q, h3, h4⟩
theorem box18 {x : Int32} (h1 : ¬ x < 1) (h2 : ¬ 8 < x) : ∃ q, 1 ≤ q ∧ q ≤ 8 ∧ x = nI q := boxN (a := 1) (b := 8) (by decide) (by decide) h1 h2
theorem WFK.addP {K : Cfg} (hW : WFK K) {x y : Nat} (h1 : 1 ≤ x) (h5 : x ≤ 5) (hy : y ≤ 1) (hn : kn K < 24) : WFK (addP K x y) := by
  refine ⟨hn, hW.m60, hW.k2, ⟨hW.u1, hW.u9⟩, ⟨hW.v1, hW.v9⟩, fun p hp => ?_, hW.dg6, fun p hp => hW.dg0 (Nat.le_of_succ_le hp), fun p i hp hi => ?_, fun k hk => ?_⟩
  · have hp1 : p < kn K + 1 := hp
    show 1 ≤ va_up (ktop K) (kn K) x p ∧ va_up (ktop K) (kn K) x p ≤ 5 ∧ va_up (ksi K) (kn K) y p ≤ 1 ∧ va_up (khd K) (kn K) 0 p ≤ va_up (ktop K) (kn K) x p + 1
    by_cases e : p = kn K
    · subst e; rw [va_up_self, va_up_self, va_up_self]; omega
    · rw [va_up_ne _ _ e, va_up_ne _ _ e, va_up_ne _ _ e]; exact hW.pl (by omega)
  · have hp1 : p < kn K + 1 := hp
    have hi1 : i < kdg K p := hi
    by_cases e : p = kn K
    · rw [e, hW.dg0 (Nat.le_refl _)] at hi1; omega
    · exact Nat.lt_succ_of_lt (hW.nb (by omega) hi1)
  · obtain ⟨h1, h2, h3, h4, h5⟩ := hW.lk hk
    exact ⟨Nat.lt_succ_of_lt h1, Nat.lt_succ_of_lt h2, h3, h4, h5⟩
theorem dX5_startAnew_0 : decode cX5_startAnew 0 = .ok (.aload_n 0, 1) := by decide +kernel
theorem dX5_startAnew_1 : decode cX5_startAnew 1 = .ok (.getfield 21, 3) := by decide +kernel
theorem dX5_startAnew_4 : decode cX5_startAnew 4 = .ok (.invokevirtual 200, 3) := by decide +kernel
theorem dX5_startAnew_7 : decode cX5_startAnew 7 = .ok (.aload_n 0, 1) := by decide +kernel
theorem dX5_startAnew_8 : decode cX5_startAnew 8 = .ok (.getfield 39, 3) := by decide +kernel
theorem dX5_startAnew_11 : decode cX5_startAnew 11 = .ok (.iconst 0, 1) := by decide +kernel
theorem dX5_startAnew_12 : decode cX5_startAnew 12 = .ok (.putfield 115, 3) := by decide +kernel
theorem dX5_startAnew_15 : decode cX5_startAnew 15 = .ok (.iconst 0, 1) := by decide +kernel
theorem dX5_startAnew_16 : decode cX5_startAnew 16 = .ok (.istore_n 1, 1) := by decide +kernel
theorem dX5_startAnew_17 : decode cX5_startAnew 17 = .ok (.iload_n 1, 1) := by decide +kernel
theorem dX5_startAnew_18 : decode cX5_startAnew 18 = .ok (.bipush 24, 2) := by decide +kernel
theorem dX5_startAnew_20 : decode cX5_startAnew 20 = .ok (.if_icmp .ge 38, 3) := by decide +kernel
theorem dX5_startAnew_23 : decode cX5_startAnew 23 = .ok (.aload_n 0, 1) := by decide +kernel
theorem dX5_startAnew_24 : decode cX5_startAnew 24 = .ok (.getfield 50, 3) := by decide +kernel
theorem dX5_startAnew_27 : decode cX5_startAnew 27 = .ok (.iload_n 1, 1) := by decide +kernel
theorem dX5_startAnew_28 : decode cX5_startAnew 28 = .ok (.aload_n 0, 1) := by decide +kernel
theorem dX5_startAnew_29 : decode cX5_startAnew 29 = .ok (.getfield 21, 3) := by decide +kernel
theorem dX5_startAnew_32 : decode cX5_startAnew 32 = .ok (.getfield 101, 3) := by decide +kernel
theorem dX5_startAnew_35 : decode cX5_startAnew 35 = .ok (.ifCond .eq 15, 3) := by decide +kernel
theorem dX5_startAnew_38 : decode cX5_startAnew 38 = .ok (.aload_n 0, 1) := by decide +kernel
theorem dX5_startAnew_39 : decode cX5_startAnew 39 = .ok (.getfield 21, 3) := by decide +kernel
theorem dX5_startAnew_42 : decode cX5_startAnew 42 = .ok (.getfield 108, 3) := by decide +kernel
theorem dX5_startAnew_45 : decode cX5_startAnew 45 = .ok (.iload_n 1, 1) := by decide +kernel
theorem dX5_startAnew_46 : decode cX5_startAnew 46 = .ok (.iaload, 1) := by decide +kernel
theorem dX5_startAnew_47 : decode cX5_startAnew 47 = .ok (.goto 4, 3) := by decide +kernel
theorem dX5_startAnew_50 : decode cX5_startAnew 50 = .ok (.iconst 0, 1) := by decide +kernel
theorem dX5_startAnew_51 : decode cX5_startAnew 51 = .ok (.iastore, 1) := by decide +kernel
theorem dX5_startAnew_52 : decode cX5_startAnew 52 = .ok (.iinc 1 1, 3) := by decide +kernel
theorem dX5_startAnew_55 : decode cX5_startAnew 55 = .ok (.goto (-38), 3) := by decide +kernel
theorem dX5_startAnew_58 : decode cX5_startAnew 58 = .ok (.return_, 1) := by decide +kernel
def rX5_startAnew : Room := { frames := 3, cells := 0, slots := 0, locals := 66 }
theorem yk_X5_startAnew : YK yX5_startAnew cX5_startAnew 2 none 0 := ⟨xim_X5_startAnew, xse_X5_startAnew, xin_X5, xco_X5_startAnew, by decide +kernel⟩
set_option maxRecDepth 4000 in
theorem c_X5_startAnew {l : Launch} {D : va_G} {t : Nat → ClassId} {a : Nat → Nat} {I : Nat → Int32} {F : Nat → Nat → Int32} {L : Nat → Int64} {K : Cfg} (hK : CFG K I F) (hW : WFK K) (sd : Int32) (hsd : I 10 = sd) : CT l D t yX5_startAnew cX5_startAnew 2 none rX5_startAnew 0 0 [.ref (a 0)] (WX a t I F L) (VP (fun w => ∃ (I' : Nat → Int32) (F' : Nat → Nat → Int32), w = WX a t I' F' L ∧ RX (freshA K sd) I' F')) := by
  refine CT.of (by decide +kernel) (by simp [lg_sl, Value.category]) (fun X C hR => ?_)
  refine xlocals (lv' := [(0, .ref (a 0))]) rfl ?_
  have fn24 := hW.n24; have fm60 := hW.m60; have fk2 := hW.k2; have fu1 := hW.u1; have fu9 := hW.u9; have fv1 := hW.v1; have fv9 := hW.v9
  refine xaload_n C 0 rfl dX5_startAnew_0 ?_
  refine gX5_21 C dX5_startAnew_1 ?_
  refine xcVV C (c_X2_settle hK hW) yk_X2_settle 2 rfl rfl xml_X5_200 ⟨⟨Nat.le_of_ble_eq_true rfl, Nat.le_of_ble_eq_true rfl⟩, ⟨rfl, rfl⟩, ⟨Nat.zero_le _, Nat.zero_le _⟩⟩ rfl (Nat.le_of_ble_eq_true rfl) dX5_startAnew_4 (fun wE hE => ?_)
  obtain ⟨IB, FB, rfl, hIB, hgB, hXB, hHB, hLB⟩ := hE
  have hKB : CFG K IB FB := hK.of (fun q hq => hIB q (by omega)) (fun q hq => hXB q (by omega) (by omega))
  refine xaload_n C 0 rfl dX5_startAnew_7 ?_
  refine gX5_39 C dX5_startAnew_8 ?_
  refine xiconst (v := nI 0) C dX5_startAnew_11 (by decide) ?_
  refine pX5_115 C (by decide +kernel) (by decide +kernel) dX5_startAnew_12 ?_
  obtain ⟨IC, eIC⟩ : ∃ z : Nat → Int32, z = va_up IB 9 (nI 0) := ⟨_, rfl⟩
  refine xworld (ws' := WX a t IC FB L) (by rw [eIC]) ?_
  have hKC : CFG K IC FB := by rw [eIC]; exact hKB.upI (by omega) _
  have hgC : IC 5 = nI (bn (GoodP K)) := by rw [eIC, va_up_ne _ _ (by decide)]; exact hgB
  refine xiconst (v := nI 0) C dX5_startAnew_15 (by decide) ?_
  refine xistore_n (lv' := [(1, .int (nI 0)), (0, .ref (a 0))]) C dX5_startAnew_16 (by decide) rfl ?_
  have LP17 : ∀ (fu17 : Nat) (i : Nat) (FA : Nat → Nat → Int32) (hi : i ≤ 24) (hXA : (∀ q, q ≠ 12 → FA q = FB q)) (hA : ∀ x, x < i → FA 12 x = if bn (GoodP K) = 0 then nI 0 else FB 7 x), 24 - i < fu17 → XW X 0 0 (WX a t IC FA L) [(0, .ref (a 0)), (1, .int (nI i))] 17 [] := by
    intro fu17
    induction fu17 with
    | zero => intro i FA hi hXA hA hm17; exact absurd hm17 (Nat.not_lt_zero _)
    | succ fu17 ih17 =>
      intro i FA hi hXA hA hm17
      refine xiload_n C 1 rfl dX5_startAnew_17 ?_
      refine xbipush (v := nI 24) C dX5_startAnew_18 (by decide) ?_
      refine xicmp_geN C 58 dX5_startAnew_20 (by decide) (by omega) (by omega) (fun h20 => ?_) (fun h20 => ?_)
      ·
        exact xvret C hR dX5_startAnew_58 (⟨rfl, IC, FA, rfl, startAnew_end hW hKC (by rw [eIC, va_up_ne _ _ (by decide), hIB 10 (by decide)]; exact hsd) (by rw [eIC, va_up_self]) hgC hHB hLB hXA (fun x hx => hA x (by have := hW.n24; omega))⟩)
      ·
        refine xaload_n C 0 rfl dX5_startAnew_23 ?_
        refine gX5_50 C dX5_startAnew_24 ?_
        refine xiload_n C 1 rfl dX5_startAnew_27 ?_
        refine xaload_n C 0 rfl dX5_startAnew_28 ?_
        refine gX5_21 C dX5_startAnew_29 ?_
        refine gX5_101 C dX5_startAnew_32 ?_
        refine xtopi (y := nI (bn (GoodP K))) (hgC) ?_
        refine xif_eqN C 50 dX5_startAnew_35 (by decide) (bn_lt _) (fun h35 => ?_) (fun h35 => ?_)
        ·
          refine xiconst (v := nI 0) C dX5_startAnew_50 (by decide) ?_
          refine xtopi (y := (if bn (GoodP K) = 0 then nI 0 else FB 7 i)) (by rw [if_pos h35]) ?_
          refine xs_st C 12 (by omega) (by omega) i (by omega) dX5_startAnew_51 ?_
          obtain ⟨FC, eFC⟩ : ∃ z : Nat → Nat → Int32, z = va_up FA 12 (upd (FA 12) i (if bn (GoodP K) = 0 then nI 0 else FB 7 i)) := ⟨_, rfl⟩
          refine xworld (ws' := WX a t IC FC L) (by rw [eFC]) ?_
          refine xiincN (lv' := [(1, .int (nI (i + 1))), (0, .ref (a 0))]) C 1 rfl dX5_startAnew_52 (by decide) rfl ?_
          refine xgoto C 17 dX5_startAnew_55 (by decide) ?_
          refine xsub [1, 0] rfl ?_
          exact ih17 (i + 1) FC (by omega) (fun q hq => by rw [eFC, va_up_ne _ _ hq]; exact hXA q hq) (fun x hx => by rw [eFC, va_up_self]; unfold upd; by_cases e : x = i; (rw [e, if_pos rfl]); (rw [if_neg e]; exact hA x (by omega))) (by omega)
        ·
          refine xaload_n C 0 rfl dX5_startAnew_38 ?_
          refine gX5_21 C dX5_startAnew_39 ?_
          refine gX5_108 C dX5_startAnew_42 ?_
          refine xiload_n C 1 rfl dX5_startAnew_45 ?_
          refine xa_raw C 7 (by omega) i (show _ < 24 by omega) dX5_startAnew_46 ?_
          refine xgoto C 51 dX5_startAnew_47 (by decide) ?_
          refine xtopi (y := (if bn (GoodP K) = 0 then nI 0 else FB 7 i)) (by rw [if_neg h35, hXA 7 (by decide)]) ?_
          refine xs_st C 12 (by omega) (by omega) i (by omega) dX5_startAnew_51 ?_
          obtain ⟨FC, eFC⟩ : ∃ z : Nat → Nat → Int32, z = va_up FA 12 (upd (FA 12) i (if bn (GoodP K) = 0 then nI 0 else FB 7 i)) := ⟨_, rfl⟩
          refine xworld (ws' := WX a t IC FC L) (by rw [eFC]) ?_
          refine xiincN (lv' := [(1, .int (nI (i + 1))), (0, .ref (a 0))]) C 1 rfl dX5_startAnew_52 (by decide) rfl ?_
          refine xgoto C 17 dX5_startAnew_55 (by decide) ?_
          refine xsub [1, 0] rfl ?_
          exact ih17 (i + 1) FC (by omega) (fun q hq => by rw [eFC, va_up_ne _ _ hq]; exact hXA q hq) (fun x hx => by rw [eFC, va_up_self]; unfold upd; by_cases e : x = i; (rw [e, if_pos rfl]); (rw [if_neg e]; exact hA x (by omega))) (by omega)
  refine xsub [1, 0] rfl ?_
  exact LP17 _ 0 FB (by omega) (fun _ _ => rfl) (fun x h => absurd h (Nat.not_lt_zero _)) (Nat.lt_succ_self _)
theorem dX5_place_0 : decode cX5_place 0 = .ok (.iload_n 1, 1) := by decide +kernel
theorem dX5_place_1 : decode cX5_place 1 = .ok (.iconst 1, 1) := by decide +kernel
theorem dX5_place_2 : decode cX5_place 2 = .ok (.if_icmp .lt 17, 3) := by decide +kernel
theorem dX5_place_5 : decode cX5_place 5 = .ok (.iload_n 1, 1) := by decide +kernel
theorem dX5_place_6 : decode cX5_place 6 = .ok (.iconst 5, 1) := by decide +kernel
theorem dX5_place_7 : decode cX5_place 7 = .ok (.if_icmp .gt 12, 3) := by decide +kernel
theorem dX5_place_10 : decode cX5_place 10 = .ok (.iload_n 2, 1) := by decide +kernel
theorem dX5_place_11 : decode cX5_place 11 = .ok (.ifCond .lt 8, 3) := by decide +kernel
theorem dX5_place_14 : decode cX5_place 14 = .ok (.iload_n 2, 1) := by decide +kernel
theorem dX5_place_15 : decode cX5_place 15 = .ok (.iconst 1, 1) := by decide +kernel
theorem dX5_place_16 : decode cX5_place 16 = .ok (.if_icmp .le 6, 3) := by decide +kernel
theorem dX5_place_19 : decode cX5_place 19 = .ok (.bipush (-2), 2) := by decide +kernel
theorem dX5_place_21 : decode cX5_place 21 = .ok (.ireturn, 1) := by decide +kernel
theorem dX5_place_22 : decode cX5_place 22 = .ok (.aload_n 0, 1) := by decide +kernel
theorem dX5_place_23 : decode cX5_place 23 = .ok (.getfield 10, 3) := by decide +kernel
theorem dX5_place_26 : decode cX5_place 26 = .ok (.getfield 58, 3) := by decide +kernel
theorem dX5_place_29 : decode cX5_place 29 = .ok (.bipush 24, 2) := by decide +kernel
theorem dX5_place_31 : decode cX5_place 31 = .ok (.if_icmp .lt 6, 3) := by decide +kernel
theorem dX5_place_34 : decode cX5_place 34 = .ok (.bipush (-4), 2) := by decide +kernel
theorem dX5_place_36 : decode cX5_place 36 = .ok (.ireturn, 1) := by decide +kernel
theorem dX5_place_37 : decode cX5_place 37 = .ok (.aload_n 0, 1) := by decide +kernel
theorem dX5_place_38 : decode cX5_place 38 = .ok (.getfield 10, 3) := by decide +kernel
theorem dX5_place_41 : decode cX5_place 41 = .ok (.iload_n 1, 1) := by decide +kernel
theorem dX5_place_42 : decode cX5_place 42 = .ok (.iload_n 2, 1) := by decide +kernel
theorem dX5_place_43 : decode cX5_place 43 = .ok (.invokevirtual 61, 3) := by decide +kernel
theorem dX5_place_46 : decode cX5_place 46 = .ok (.istore_n 3, 1) := by decide +kernel
theorem dX5_place_47 : decode cX5_place 47 = .ok (.aload_n 0, 1) := by decide +kernel
theorem dX5_place_48 : decode cX5_place 48 = .ok (.invokevirtual 65, 3) := by decide +kernel
theorem dX5_place_51 : decode cX5_place 51 = .ok (.iload_n 3, 1) := by decide +kernel
theorem dX5_place_52 : decode cX5_place 52 = .ok (.ireturn, 1) := by decide +kernel
def rX5_place : Room := { frames := 4, cells := 0, slots := 0, locals := 87 }
theorem yk_X5_place : YK yX5_place cX5_place 4 (some .int) 2 := ⟨xim_X5_place, xse_X5_place, xin_X5, xco_X5_place, by decide +kernel⟩
set_option maxRecDepth 4000 in
theorem c_X5_place {l : Launch} {D : va_G} {t : Nat → ClassId} {a : Nat → Nat} {I : Nat → Int32} {F : Nat → Nat → Int32} {L : Nat → Int64} {K : Cfg} {sd : Int32} {hd : Nat → Nat} {dk : Bool} {dw : Nat → Nat} {mt : Int32} (hI : INV (K, sd, hd, dk, dw, mt)) (hX : RX (K, sd, hd, dk, dw, mt) I F) (x y : Int32) : CT l D t yX5_place cX5_place 4 (some .int) rX5_place 0 0 [.ref (a 0), .int x, .int y] (WX a t I F L) (XO a t (opPlace (K, sd, hd, dk, dw, mt) x y)) := by
  refine CT.of (by decide +kernel) (by simp [lg_sl, Value.category]) (fun X C hR => ?_)
  refine xlocals (lv' := [(0, .ref (a 0)), (1, .int x), (2, .int y)]) rfl ?_
  obtain ⟨hK, hsd, hHd, hdk, hdr, hgd, hHS, hLS⟩ := id hX
  have hW : WFK K := hI.1
  have hrg := hI.2.1
  have fn24 := hW.n24; have fm60 := hW.m60; have fk2 := hW.k2; have fu1 := hW.u1; have fu9 := hW.u9; have fv1 := hW.v1; have fv9 := hW.v9
  refine xiload_n C 1 rfl dX5_place_0 ?_
  refine xiconst (v := 1) C dX5_place_1 (by decide) ?_
  refine xicmp_lt C 19 dX5_place_2 (by decide) (fun h2 => ?_) (fun h2 => ?_)
  ·
    refine xbipush (v := -2) C dX5_place_19 (by decide) ?_
    exact xret C hR (rfl) dX5_place_21 (XO.mk (by simp only [opPlace]; rw [ci_t (Or.inl h2)]) hX)
  ·
    refine xiload_n C 1 rfl dX5_place_5 ?_
    refine xiconst (v := 5) C dX5_place_6 (by decide) ?_
    refine xicmp_gt C 19 dX5_place_7 (by decide) (fun h7 => ?_) (fun h7 => ?_)
    ·
      refine xbipush (v := -2) C dX5_place_19 (by decide) ?_
      exact xret C hR (rfl) dX5_place_21 (XO.mk (by simp only [opPlace]; rw [ci_t (Or.inr (Or.inl h7))]) hX)
    ·
      refine xiload_n C 2 rfl dX5_place_10 ?_
      refine xif_lt C 19 dX5_place_11 (by decide) (fun h11 => ?_) (fun h11 => ?_)
      ·
        refine xbipush (v := -2) C dX5_place_19 (by decide) ?_
        exact xret C hR (rfl) dX5_place_21 (XO.mk (by simp only [opPlace]; rw [ci_t (Or.inr (Or.inr (Or.inl h11)))]) hX)
      ·
        refine xiload_n C 2 rfl dX5_place_14 ?_
        refine xiconst (v := 1) C dX5_place_15 (by decide) ?_
        refine xicmp_le C 22 dX5_place_16 (by decide) (fun h16 => ?_) (fun h16 => ?_)
        ·
          obtain ⟨p, hp1, hp5, rfl⟩ := box15 h2 h7
          obtain ⟨q, hq1, rfl⟩ := box01 h11 (Int32.not_lt.mpr h16)
          refine xaload_n C 0 rfl dX5_place_22 ?_
          refine gX5_10 C dX5_place_23 ?_
          refine gX5_58K C hK dX5_place_26 ?_
          refine xbipush (v := nI 24) C dX5_place_29 (by decide) ?_
          refine xicmp_ltN C 37 dX5_place_31 (by decide) (by omega) (by omega) (fun h31 => ?_) (fun h31 => ?_)
          ·
            refine xaload_n C 0 rfl dX5_place_37 ?_
            refine gX5_10 C dX5_place_38 ?_
            refine xiload_n C 1 rfl dX5_place_41 ?_
            refine xiload_n C 2 rfl dX5_place_42 ?_
            refine xcVE C (c_X1_addPlace hK hW (by omega) p q (by omega) (by omega)) yk_X1_addPlace 1 rfl rfl xml_X5_61 ⟨⟨Nat.le_of_ble_eq_true rfl, Nat.le_of_ble_eq_true rfl⟩, ⟨rfl, rfl⟩, ⟨Nat.zero_le _, Nat.zero_le _⟩⟩ rfl (Nat.le_of_ble_eq_true rfl) dX5_place_43 (fun vE wE hE => ?_)
            obtain ⟨rfl, IA, FA, rfl, hKA, hFA, hIA⟩ := hE
            refine xistore_n (lv' := [(3, .int (nI (kn K))), (0, .ref (a 0)), (1, .int (nI p)), (2, .int (nI q))]) C dX5_place_46 (by decide) rfl ?_
            refine xaload_n C 1 rfl dX5_place_47 ?_
            refine xcVV C (c_X5_startAnew hKA (hW.addP hp1 hp5 hq1 (by omega)) sd (by rw [hIA 10 (by decide)]; exact hsd)) yk_X5_startAnew 0 rfl rfl xml_X5_65 ⟨⟨Nat.le_of_ble_eq_true rfl, Nat.le_of_ble_eq_true rfl⟩, ⟨rfl, rfl⟩, ⟨Nat.zero_le _, Nat.zero_le _⟩⟩ rfl (Nat.le_of_ble_eq_true rfl) dX5_place_48 (fun wE hE => ?_)
            obtain ⟨IS, FS, rfl, hRS⟩ := hE
            refine xiload_n C 0 rfl dX5_place_51 ?_
            exact xret C hR (rfl) dX5_place_52 (XO.mk (by simp only [opPlace]; rw [ci_f (fun q => q.elim h2 (fun q => q.elim h7 (fun q => q.elim h11 (fun q => absurd q (Int32.not_lt.mpr h16))))), ci_f (by omega), show cl (nI p) = p from nI_clamp (by omega), show cl (nI q) = q from nI_clamp (by omega)]) hRS)
          ·
            refine xbipush (v := -4) C dX5_place_34 (by decide) ?_
            exact xret C hR (rfl) dX5_place_36 (XO.mk (by simp only [opPlace]; rw [ci_f (fun q => q.elim h2 (fun q => q.elim h7 (fun q => q.elim h11 (fun q => absurd q (Int32.not_lt.mpr h16))))), ci_t h31]) hX)
        ·
          refine xbipush (v := -2) C dX5_place_19 (by decide) ?_
          exact xret C hR (rfl) dX5_place_21 (XO.mk (by simp only [opPlace]; rw [ci_t (Or.inr (Or.inr (Or.inr (Int32.not_le.mp h16))))]) hX)
