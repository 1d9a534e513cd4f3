/-! The reference, 2: the system's calls (written by my program parts_m2.py). -/
theorem xtop1i {X : XC} {k n : Nat} {ws : va_W} {lv : List (Nat × Value)} {pc : Nat} {st : List Value} {x y : Int32} (h : x = y) (kk : XW X k n ws lv pc (.int y :: st)) : XW X k n ws lv pc (.int x :: st) := xtopi h kk
theorem nand {A B : Prop} (h : ¬ (¬ A ∧ ¬ B)) : A ∨ B := by
  rcases Classical.em A with a | a
  · exact Or.inl a
  · exact Or.inr (Classical.byContradiction fun b => h ⟨a, b⟩)
theorem exS_not {P : Nat → Prop} {i : Nat} (h : ¬ ∃ x, x < i ∧ P x) (h2 : ¬ P i) : ¬ ∃ x, x < i + 1 ∧ P x := fun ⟨x, h3, h4⟩ => by
  by_cases e : x = i
  · subst e; exact h2 h4
  · exact h ⟨x, by omega, h4⟩
theorem changed_good {K : Cfg} {sd : Int32} {IA : Nat → Int32} {FA FB : Nat → Nat → Int32} (hK : CFG K IA FA) (hsd : IA 10 = sd) (h9 : IA 9 = nI 0) (hg : GoodP K) (hX : ∀ q, q ≠ 12 → FB q = FA q) (hL : RA (kn K) (FB 12) (lS K)) : RM (freshA K sd) IA FB :=
  ⟨hK.of (fun _ _ => rfl) (fun q hq => hX q (by omega)), hsd, fun p hp => by dsimp only; rw [ci_t hg]; exact hL p hp, h9, fun h => by cases h⟩
theorem changed_not {K : Cfg} {sd : Int32} {IA : Nat → Int32} {FA FB : Nat → Nat → Int32} (hK : CFG K IA FA) (hsd : IA 10 = sd) (h9 : IA 9 = nI 0) (hg : ¬ GoodP K) (hX : ∀ q, q ≠ 12 → FB q = FA q) (hL : RA (kn K) (FB 12) (fun _ => 0)) : RM (freshA K sd) IA FB :=
  ⟨hK.of (fun _ _ => rfl) (fun q hq => hX q (by omega)), hsd, fun p hp => by dsimp only; rw [ci_f hg]; exact hL p hp, h9, fun h => by cases h⟩
theorem RM.hnd {K : Cfg} {sd : Int32} {hd hd' : Nat → Nat} {dk : Bool} {dw : Nat → Nat} {mt : Int32} {I : Nat → Int32} {F F' : Nat → Nat → Int32} (h : RM (K, sd, hd, dk, dw, mt) I F) (hF : ∀ q, q ≠ 12 → F' q = F q) (hH : RA (kn K) (F' 12) hd') : RM (K, sd, hd', dk, dw, mt) I F' := by
  obtain ⟨h1, h2, h3, h4, h5⟩ := h
  exact ⟨h1.of (fun _ _ => rfl) (fun q hq => hF q (by omega)), h2, hH, h4, by rw [hF 10 (by decide)]; exact h5⟩
theorem RM.seed {K : Cfg} {sd x : Int32} {hd : Nat → Nat} {dk : Bool} {dw : Nat → Nat} {mt : Int32} {I IA : Nat → Int32} {F : Nat → Nat → Int32} (h : RM (K, sd, hd, dk, dw, mt) I F) (e : IA = va_up I 10 x) : RM (K, x, hd, dk, dw, mt) IA F := by
  obtain ⟨h1, h2, h3, h4, h5⟩ := h
  subst e
  exact ⟨h1.upI (by omega) _, va_up_self _ _ _, h3, h4, h5⟩
theorem pw_1 {K : Cfg} {p x : Nat} (h : kk K = 1) (hr : x ≤ ktop K p) : pwN K p x ≠ 0 ↔ (khd K p = 0 ∨ x + 1 = khd K p) := by
  unfold pwN mostN
  rw [if_pos h, if_neg (show ¬ kk K = 2 by omega)]
  constructor
  · intro h1
    by_cases e : khd K p = 0
    · exact Or.inl e
    · by_cases e2 : x + 1 = khd K p
      · exact Or.inr e2
      · exact absurd (if_pos (Or.inr ⟨h, e, e2⟩)) h1
  · intro h1
    rw [if_neg (by omega)]
    omega
theorem pw_02 {K : Cfg} (hW : WFK K) {p x : Nat} (h : ¬ kk K = 1) : pwN K p x ≠ 0 ↔ x < 2 := by
  have := hW.u1; have := hW.v1
  unfold pwN mostN
  rw [if_neg h]
  by_cases e : x < 2
  · rw [if_neg (by omega)]
    constructor
    · intro _; exact e
    · intro _
      split
      · split <;> omega
      · omega
  · rw [if_pos (Or.inl (by omega))]
    omega
theorem lw_0 {K : Cfg} (hW : WFK K) {x y : Nat} (h : kk K = 0) : lwN K x y ≠ 0 := by
  have := hW.u1; have := hW.v1
  unfold lwN
  rw [if_pos h]
  split <;> omega
theorem lw_1 {K : Cfg} {x y : Nat} (h : kk K = 1) : lwN K x y ≠ 0 ↔ (x ≤ y + 1 ∧ y ≤ x + 1) := by
  unfold lwN
  rw [if_neg (by omega), if_pos h]
  split <;> omega
theorem lw_2 {K : Cfg} {x y : Nat} (h : kk K = 2) : lwN K x y ≠ 0 ↔ ¬ (x = 1 ∧ y = 1) := by
  unfold lwN
  rw [if_neg (by omega), if_neg (by omega)]
  split <;> omega
theorem inm1 {x y : Nat} (hx : x ≤ 5) (hy : y ≤ 5) (h : ¬ nI x - nI y < -1 ∧ ¬ 1 < nI x - nI y) : x ≤ y + 1 ∧ y ≤ x + 1 := by
  have h1 := Int32.le_iff_toInt_le.mp (Int32.not_lt.mp h.1)
  have h2 := Int32.le_iff_toInt_le.mp (Int32.not_lt.mp h.2)
  rw [pk_sub_toInt (by omega) (by omega)] at h1 h2
  have h3 : (-1 : Int32).toInt = -1 := by decide +kernel
  have h4 : (1 : Int32).toInt = 1 := by decide +kernel
  omega
theorem inm1r {x y : Nat} (hx : x ≤ 5) (hy : y ≤ 5) (h : x ≤ y + 1 ∧ y ≤ x + 1) : ¬ nI x - nI y < -1 ∧ ¬ 1 < nI x - nI y := by
  have h3 : (-1 : Int32).toInt = -1 := by decide +kernel
  have h4 : (1 : Int32).toInt = 1 := by decide +kernel
  constructor
  · intro q
    have h1 := Int32.lt_iff_toInt_lt.mp q
    rw [pk_sub_toInt (by omega) (by omega)] at h1
    omega
  · intro q
    have h1 := Int32.lt_iff_toInt_lt.mp q
    rw [pk_sub_toInt (by omega) (by omega)] at h1
    omega
theorem lw_2a {K : Cfg} {f : Nat → Nat} {p q : Nat} (h : ∀ x, x < kn K → pwN K x (f x) ≠ 0) (hW : WFK K) (h1 : ¬ kk K = 1) (hp : p < kn K) (hq : q < kn K) (h2 : 2 ≤ f p + f q) : f p = 1 := by
  have h3 := (pw_02 hW h1).mp (h p hp)
  have h4 := (pw_02 hW h1).mp (h q hq)
  omega
theorem lw_2b {K : Cfg} {f : Nat → Nat} {p q : Nat} (h : ∀ x, x < kn K → pwN K x (f x) ≠ 0) (hW : WFK K) (h1 : ¬ kk K = 1) (hp : p < kn K) (hq : q < kn K) (h2 : 2 ≤ f p + f q) : f q = 1 := by
  have h3 := (pw_02 hW h1).mp (h p hp)
  have h4 := (pw_02 hW h1).mp (h q hq)
  omega
theorem take1 {x : Int32} (h1 : ¬ x < 0) (h6 : ¬ 2 < x) (h14 : ¬ x = 2) (h44 : ¬ x = 0) : x = 1 := by
  obtain ⟨q, hq, rfl⟩ := box02 h1 h6
  rcases (show q = 0 ∨ q = 1 ∨ q = 2 by omega) with rfl | rfl | rfl
  · exact absurd rfl h44
  · rfl
  · exact absurd rfl h14
theorem dX6_changed_0 : decode cX6_changed 0 = .ok (.aload_n 0, 1) := by decide +kernel
theorem dX6_changed_1 : decode cX6_changed 1 = .ok (.iconst 0, 1) := by decide +kernel
theorem dX6_changed_2 : decode cX6_changed 2 = .ok (.putfield 60, 3) := by decide +kernel
theorem dX6_changed_5 : decode cX6_changed 5 = .ok (.aload_n 0, 1) := by decide +kernel
theorem dX6_changed_6 : decode cX6_changed 6 = .ok (.invokevirtual 64, 3) := by decide +kernel
theorem dX6_changed_9 : decode cX6_changed 9 = .ok (.istore_n 1, 1) := by decide +kernel
theorem dX6_changed_10 : decode cX6_changed 10 = .ok (.iload_n 1, 1) := by decide +kernel
theorem dX6_changed_11 : decode cX6_changed 11 = .ok (.ifCond .eq 11, 3) := by decide +kernel
theorem dX6_changed_14 : decode cX6_changed 14 = .ok (.aload_n 0, 1) := by decide +kernel
theorem dX6_changed_15 : decode cX6_changed 15 = .ok (.aload_n 0, 1) := by decide +kernel
theorem dX6_changed_16 : decode cX6_changed 16 = .ok (.getfield 38, 3) := by decide +kernel
theorem dX6_changed_19 : decode cX6_changed 19 = .ok (.invokevirtual 68, 3) := by decide +kernel
theorem dX6_changed_22 : decode cX6_changed 22 = .ok (.iconst 0, 1) := by decide +kernel
theorem dX6_changed_23 : decode cX6_changed 23 = .ok (.istore_n 2, 1) := by decide +kernel
theorem dX6_changed_24 : decode cX6_changed 24 = .ok (.iload_n 2, 1) := by decide +kernel
theorem dX6_changed_25 : decode cX6_changed 25 = .ok (.aload_n 0, 1) := by decide +kernel
theorem dX6_changed_26 : decode cX6_changed 26 = .ok (.getfield 53, 3) := by decide +kernel
theorem dX6_changed_29 : decode cX6_changed 29 = .ok (.if_icmp .ge 20, 3) := by decide +kernel
theorem dX6_changed_32 : decode cX6_changed 32 = .ok (.iload_n 1, 1) := by decide +kernel
theorem dX6_changed_33 : decode cX6_changed 33 = .ok (.ifCond .ne 16, 3) := by decide +kernel
theorem dX6_changed_36 : decode cX6_changed 36 = .ok (.aload_n 0, 1) := by decide +kernel
theorem dX6_changed_37 : decode cX6_changed 37 = .ok (.getfield 38, 3) := by decide +kernel
theorem dX6_changed_40 : decode cX6_changed 40 = .ok (.iload_n 2, 1) := by decide +kernel
theorem dX6_changed_41 : decode cX6_changed 41 = .ok (.iconst 0, 1) := by decide +kernel
theorem dX6_changed_42 : decode cX6_changed 42 = .ok (.iastore, 1) := by decide +kernel
theorem dX6_changed_43 : decode cX6_changed 43 = .ok (.iinc 2 1, 3) := by decide +kernel
theorem dX6_changed_46 : decode cX6_changed 46 = .ok (.goto (-22), 3) := by decide +kernel
theorem dX6_changed_49 : decode cX6_changed 49 = .ok (.return_, 1) := by decide +kernel
def rX6_changed : Room := { frames := 2, cells := 0, slots := 0, locals := 47 }
theorem yk_X6_changed : YK yX6_changed cX6_changed 3 none 0 := ⟨xim_X6_changed, xse_X6_changed, xin_X6, xco_X6_changed, by decide +kernel⟩
set_option maxRecDepth 4000 in
theorem c_X6_changed {l : Launch} {D : va_G} {t : Nat → ClassId} {b : Nat → Nat} {I : Nat → Int32} {F : Nat → Nat → Int32} {K : Cfg} (hK : CFG K I F) (hW : WFK K) (sd : Int32) (hsd : I 10 = sd) : CT l D t yX6_changed cX6_changed 3 none rX6_changed 0 0 [.ref (b 0)] (WM b t I F) (VP (fun w => ∃ (I' : Nat → Int32) (F' : Nat → Nat → Int32), w = WM b t I' F' ∧ RM (freshA K sd) I' F')) := by
  refine CT.of (by decide +kernel) (by simp [lg_sl, Value.category]) (fun X C hR => ?_)
  refine xlocals (lv' := [(0, .ref (b 0))]) rfl ?_
  have fn24 := hW.n24; have fm60 := hW.m60; have fk2 := hW.k2; have fu1 := hW.u1; have fu9 := hW.u9; have fv1 := hW.v1; have fv9 := hW.v9
  refine xaload_n C 0 rfl dX6_changed_0 ?_
  refine xiconst (v := nI 0) C dX6_changed_1 (by decide) ?_
  refine pX6_60 C (by decide +kernel) (by decide +kernel) dX6_changed_2 ?_
  obtain ⟨IA, eIA⟩ : ∃ z : Nat → Int32, z = va_up I 9 (nI 0) := ⟨_, rfl⟩
  refine xworld (ws' := WM b t IA F) (by rw [eIA]) ?_
  have hK1 : CFG K IA F := by rw [eIA]; exact hK.upI (by omega) _
  refine xaload_n C 0 rfl dX6_changed_5 ?_
  refine xcVE C (c_X6_isGood hK1 hW) yk_X6_isGood 0 rfl rfl xml_X6_64 ⟨⟨Nat.le_of_ble_eq_true rfl, Nat.le_of_ble_eq_true rfl⟩, ⟨rfl, rfl⟩, ⟨Nat.zero_le _, Nat.zero_le _⟩⟩ rfl (Nat.le_of_ble_eq_true rfl) dX6_changed_6 (fun vE wE hE => ?_)
  obtain ⟨rfl, FA, rfl, hXA⟩ := hE
  have hKA : CFG K IA FA := hK1.of (fun _ _ => rfl) (fun q hq => hXA q (by omega))
  refine xistore_n (lv' := [(1, .int (nI (bn (GoodP K)))), (0, .ref (b 0))]) C dX6_changed_9 (by decide) rfl ?_
  refine xiload_n C 0 rfl dX6_changed_10 ?_
  refine xif_eqN C 22 dX6_changed_11 (by decide) (bn_lt _) (fun h11 => ?_) (fun h11 => ?_)
  ·
    refine xiconst (v := nI 0) C dX6_changed_22 (by decide) ?_
    refine xistore_n (lv' := [(2, .int (nI 0)), (1, .int (nI (bn (GoodP K)))), (0, .ref (b 0))]) C dX6_changed_23 (by decide) rfl ?_
    have LP24 : ∀ (fu24 : Nat) (i : Nat) (FC : Nat → Nat → Int32) (hi : i ≤ kn K) (hXC : ∀ q, q ≠ 12 → FC q = FA q) (hC : RA i (FC 12) (fun _ => 0)), kn K - i < fu24 → XW X 0 0 (WM b t IA FC) [(0, .ref (b 0)), (1, .int (nI (bn (GoodP K)))), (2, .int (nI i))] 24 [] := by
      intro fu24
      induction fu24 with
      | zero => intro i FC hi hXC hC hm24; exact absurd hm24 (Nat.not_lt_zero _)
      | succ fu24 ih24 =>
        intro i FC hi hXC hC hm24
        have hKC : CFG K IA FC := hKA.of (fun _ _ => rfl) (fun q hq => hXC q (by omega))
        refine xiload_n C 2 rfl dX6_changed_24 ?_
        refine xaload_n C 0 rfl dX6_changed_25 ?_
        refine gX6_53K C hKC dX6_changed_26 ?_
        refine xicmp_geN C 49 dX6_changed_29 (by decide) (by omega) (by omega) (fun h29 => ?_) (fun h29 => ?_)
        ·
          exact xvret C hR dX6_changed_49 (⟨rfl, IA, FC, rfl, changed_not hKA (by rw [eIA, va_up_ne _ _ (by decide)]; exact hsd) (by rw [eIA, va_up_self]) (bn_0 h11) hXC ((show i = kn K by omega) ▸ hC)⟩)
        ·
          refine xiload_n C 1 rfl dX6_changed_32 ?_
          refine xif_neN C 49 dX6_changed_33 (by decide) (bn_lt _) (fun h33 => ?_) (fun h33 => ?_)
          · exact absurd h11 h33
          ·
            refine xaload_n C 0 rfl dX6_changed_36 ?_
            refine gX6_38 C dX6_changed_37 ?_
            refine xiload_n C 2 rfl dX6_changed_40 ?_
            refine xiconst (v := nI 0) C dX6_changed_41 (by decide) ?_
            refine ms_st C 12 (by omega) (by omega) i (by omega) dX6_changed_42 ?_
            obtain ⟨FD, eFD⟩ : ∃ z : Nat → Nat → Int32, z = va_up FC 12 (upd (FC 12) i (nI 0)) := ⟨_, rfl⟩
            refine xworld (ws' := WM b t IA FD) (by rw [eFD]) ?_
            refine xiincN (lv' := [(2, .int (nI (i + 1))), (0, .ref (b 0)), (1, .int (nI (bn (GoodP K))))]) C 2 rfl dX6_changed_43 (by decide) rfl ?_
            refine xgoto C 24 dX6_changed_46 (by decide) ?_
            refine xsub [1, 2, 0] rfl ?_
            exact ih24 (i + 1) FD (by omega) (fun q hq => by rw [eFD, va_up_ne _ _ hq]; exact hXC q hq) (by rw [eFD, va_up_self]; exact hC.snoc (f := fun _ => 0) (by omega)) (by omega)
    refine xsub [2, 1, 0] rfl ?_
    exact LP24 _ 0 FA (Nat.zero_le _) (fun _ _ => rfl) (fun p h => absurd h (Nat.not_lt_zero _)) (Nat.lt_succ_self _)
  ·
    refine xaload_n C 1 rfl dX6_changed_14 ?_
    refine xaload_n C 1 rfl dX6_changed_15 ?_
    refine gX6_38 C dX6_changed_16 ?_
    refine xcVV C (c_X6_layLow hKA hW 12 (by decide) (by decide)) yk_X6_layLow 0 rfl rfl xml_X6_68 ⟨⟨Nat.le_of_ble_eq_true rfl, Nat.le_of_ble_eq_true rfl⟩, ⟨rfl, rfl⟩, ⟨Nat.zero_le _, Nat.zero_le _⟩⟩ rfl (Nat.le_of_ble_eq_true rfl) dX6_changed_19 (fun wE hE => ?_)
    obtain ⟨FB, rfl, hXB, hLB, _⟩ := hE
    have hKB : CFG K IA FB := hKA.of (fun _ _ => rfl) (fun q hq => hXB q (by omega))
    refine xiconst (v := nI 0) C dX6_changed_22 (by decide) ?_
    refine xistore_n (lv' := [(2, .int (nI 0)), (1, .int (nI (bn (GoodP K)))), (0, .ref (b 0))]) C dX6_changed_23 (by decide) rfl ?_
    refine xiload_n C 0 rfl dX6_changed_24 ?_
    refine xaload_n C 2 rfl dX6_changed_25 ?_
    refine gX6_53K C hKB dX6_changed_26 ?_
    refine xicmp_geN C 49 dX6_changed_29 (by decide) (by omega) (by omega) (fun h29 => ?_) (fun h29 => ?_)
    ·
      exact xvret C hR dX6_changed_49 (⟨rfl, IA, FB, rfl, changed_good hKA (by rw [eIA, va_up_ne _ _ (by decide)]; exact hsd) (by rw [eIA, va_up_self]) (bn_1 h11) hXB hLB⟩)
    ·
      refine xiload_n C 1 rfl dX6_changed_32 ?_
      refine xif_neN C 49 dX6_changed_33 (by decide) (bn_lt _) (fun h33 => ?_) (fun h33 => ?_)
      ·
        exact xvret C hR dX6_changed_49 (⟨rfl, IA, FB, rfl, changed_good hKA (by rw [eIA, va_up_ne _ _ (by decide)]; exact hsd) (by rw [eIA, va_up_self]) (bn_1 h11) hXB hLB⟩)
      · exact absurd h33 (h11)
theorem dX6_place_0 : decode cX6_place 0 = .ok (.iload_n 1, 1) := by decide +kernel
theorem dX6_place_1 : decode cX6_place 1 = .ok (.iconst 1, 1) := by decide +kernel
theorem dX6_place_2 : decode cX6_place 2 = .ok (.iconst 5, 1) := by decide +kernel
theorem dX6_place_3 : decode cX6_place 3 = .ok (.invokestatic 56, 3) := by decide +kernel
theorem dX6_place_6 : decode cX6_place 6 = .ok (.ifCond .eq 12, 3) := by decide +kernel
theorem dX6_place_9 : decode cX6_place 9 = .ok (.iload_n 2, 1) := by decide +kernel
theorem dX6_place_10 : decode cX6_place 10 = .ok (.iconst 0, 1) := by decide +kernel
theorem dX6_place_11 : decode cX6_place 11 = .ok (.iconst 1, 1) := by decide +kernel
theorem dX6_place_12 : decode cX6_place 12 = .ok (.invokestatic 56, 3) := by decide +kernel
theorem dX6_place_15 : decode cX6_place 15 = .ok (.ifCond .ne 6, 3) := by decide +kernel
theorem dX6_place_18 : decode cX6_place 18 = .ok (.bipush (-2), 2) := by decide +kernel
theorem dX6_place_20 : decode cX6_place 20 = .ok (.ireturn, 1) := by decide +kernel
theorem dX6_place_21 : decode cX6_place 21 = .ok (.aload_n 0, 1) := by decide +kernel
theorem dX6_place_22 : decode cX6_place 22 = .ok (.getfield 53, 3) := by decide +kernel
theorem dX6_place_25 : decode cX6_place 25 = .ok (.bipush 24, 2) := by decide +kernel
theorem dX6_place_27 : decode cX6_place 27 = .ok (.if_icmp .ne 6, 3) := by decide +kernel
theorem dX6_place_30 : decode cX6_place 30 = .ok (.bipush (-4), 2) := by decide +kernel
theorem dX6_place_32 : decode cX6_place 32 = .ok (.ireturn, 1) := by decide +kernel
theorem dX6_place_33 : decode cX6_place 33 = .ok (.aload_n 0, 1) := by decide +kernel
theorem dX6_place_34 : decode cX6_place 34 = .ok (.getfield 7, 3) := by decide +kernel
theorem dX6_place_37 : decode cX6_place 37 = .ok (.aload_n 0, 1) := by decide +kernel
theorem dX6_place_38 : decode cX6_place 38 = .ok (.getfield 53, 3) := by decide +kernel
theorem dX6_place_41 : decode cX6_place 41 = .ok (.iload_n 1, 1) := by decide +kernel
theorem dX6_place_42 : decode cX6_place 42 = .ok (.iastore, 1) := by decide +kernel
theorem dX6_place_43 : decode cX6_place 43 = .ok (.aload_n 0, 1) := by decide +kernel
theorem dX6_place_44 : decode cX6_place 44 = .ok (.getfield 13, 3) := by decide +kernel
theorem dX6_place_47 : decode cX6_place 47 = .ok (.aload_n 0, 1) := by decide +kernel
theorem dX6_place_48 : decode cX6_place 48 = .ok (.getfield 53, 3) := by decide +kernel
theorem dX6_place_51 : decode cX6_place 51 = .ok (.iload_n 2, 1) := by decide +kernel
theorem dX6_place_52 : decode cX6_place 52 = .ok (.iastore, 1) := by decide +kernel
theorem dX6_place_53 : decode cX6_place 53 = .ok (.aload_n 0, 1) := by decide +kernel
theorem dX6_place_54 : decode cX6_place 54 = .ok (.getfield 16, 3) := by decide +kernel
theorem dX6_place_57 : decode cX6_place 57 = .ok (.aload_n 0, 1) := by decide +kernel
theorem dX6_place_58 : decode cX6_place 58 = .ok (.getfield 53, 3) := by decide +kernel
theorem dX6_place_61 : decode cX6_place 61 = .ok (.iconst (-1), 1) := by decide +kernel
theorem dX6_place_62 : decode cX6_place 62 = .ok (.iastore, 1) := by decide +kernel
theorem dX6_place_63 : decode cX6_place 63 = .ok (.aload_n 0, 1) := by decide +kernel
theorem dX6_place_64 : decode cX6_place 64 = .ok (.dup, 1) := by decide +kernel
theorem dX6_place_65 : decode cX6_place 65 = .ok (.getfield 53, 3) := by decide +kernel
theorem dX6_place_68 : decode cX6_place 68 = .ok (.iconst 1, 1) := by decide +kernel
theorem dX6_place_69 : decode cX6_place 69 = .ok (.iadd, 1) := by decide +kernel
theorem dX6_place_70 : decode cX6_place 70 = .ok (.putfield 53, 3) := by decide +kernel
theorem dX6_place_73 : decode cX6_place 73 = .ok (.aload_n 0, 1) := by decide +kernel
theorem dX6_place_74 : decode cX6_place 74 = .ok (.invokevirtual 72, 3) := by decide +kernel
theorem dX6_place_77 : decode cX6_place 77 = .ok (.aload_n 0, 1) := by decide +kernel
theorem dX6_place_78 : decode cX6_place 78 = .ok (.getfield 53, 3) := by decide +kernel
theorem dX6_place_81 : decode cX6_place 81 = .ok (.iconst 1, 1) := by decide +kernel
theorem dX6_place_82 : decode cX6_place 82 = .ok (.isub, 1) := by decide +kernel
theorem dX6_place_83 : decode cX6_place 83 = .ok (.ireturn, 1) := by decide +kernel
def rX6_place : Room := { frames := 3, cells := 0, slots := 0, locals := 69 }
theorem yk_X6_place : YK yX6_place cX6_place 3 (some .int) 2 := ⟨xim_X6_place, xse_X6_place, xin_X6, xco_X6_place, by decide +kernel⟩
set_option maxRecDepth 4000 in
theorem c_X6_place {l : Launch} {D : va_G} {t : Nat → ClassId} {b : Nat → Nat} {I : Nat → Int32} {F : Nat → Nat → Int32} {K : Cfg} {sd : Int32} {hd : Nat → Nat} {dk : Bool} {dw : Nat → Nat} {mt : Int32} (hI : INV (K, sd, hd, dk, dw, mt)) (hX : RM (K, sd, hd, dk, dw, mt) I F) (x y : Int32) : CT l D t yX6_place cX6_place 3 (some .int) rX6_place 0 0 [.ref (b 0), .int x, .int y] (WM b t I F) (MO b t (opPlace (K, sd, hd, dk, dw, mt) x y)) := by
  refine CT.of (by decide +kernel) (by simp [lg_sl, Value.category]) (fun X C hR => ?_)
  refine xlocals (lv' := [(0, .ref (b 0)), (1, .int x), (2, .int y)]) rfl ?_
  obtain ⟨hK, hsd, hHd, hdk, hdr⟩ := id hX
  have hW : WFK K := hI.1
  have hrg := hI.2.1
  have fn24 := hW.n24; have fm60 := hW.m60; have fk2 := hW.k2; have fu1 := hW.u1; have fu9 := hW.u9; have fv1 := hW.v1; have fv9 := hW.v9
  refine xiload_n C 1 rfl dX6_place_0 ?_
  refine xiconst (v := 1) C dX6_place_1 (by decide) ?_
  refine xiconst (v := 5) C dX6_place_2 (by decide) ?_
  refine xcSR C (c_X6_in x 1 5) sk_X6_in xml_X6_56 ⟨⟨Nat.le_of_ble_eq_true rfl, Nat.le_of_ble_eq_true rfl⟩, ⟨rfl, rfl⟩, ⟨Nat.zero_le _, Nat.zero_le _⟩⟩ rfl (Nat.le_of_ble_eq_true rfl) dX6_place_3 ?_
  refine xif_eqN C 18 dX6_place_6 (by decide) (bn_lt _) (fun h6 => ?_) (fun h6 => ?_)
  ·
    refine xbipush (v := -2) C dX6_place_18 (by decide) ?_
    exact xret C hR (rfl) dX6_place_20 (MO.mk (by rw [opPlace, ci_t ((nand (bn_0 h6)).elim Or.inl (fun q => Or.inr (Or.inl q)))]) hX)
  ·
    refine xiload_n C 2 rfl dX6_place_9 ?_
    refine xiconst (v := 0) C dX6_place_10 (by decide) ?_
    refine xiconst (v := 1) C dX6_place_11 (by decide) ?_
    refine xcSR C (c_X6_in y 0 1) sk_X6_in xml_X6_56 ⟨⟨Nat.le_of_ble_eq_true rfl, Nat.le_of_ble_eq_true rfl⟩, ⟨rfl, rfl⟩, ⟨Nat.zero_le _, Nat.zero_le _⟩⟩ rfl (Nat.le_of_ble_eq_true rfl) dX6_place_12 ?_
    refine xif_neN C 21 dX6_place_15 (by decide) (bn_lt _) (fun h15 => ?_) (fun h15 => ?_)
    ·
      refine xaload_n C 0 rfl dX6_place_21 ?_
      refine gX6_53K C hK dX6_place_22 ?_
      refine xbipush (v := nI 24) C dX6_place_25 (by decide) ?_
      refine xicmp_neN C 33 dX6_place_27 (by decide) (by omega) (by omega) (fun h27 => ?_) (fun h27 => ?_)
      ·
        have hin1 := bn_1 h6
        have hin2 := bn_1 h15
        obtain ⟨p, hp1, hp5, rfl⟩ := box15 hin1.1 hin1.2
        obtain ⟨q, hq1, rfl⟩ := box01 hin2.1 hin2.2
        refine xaload_n C 0 rfl dX6_place_33 ?_
        refine gX6_7 C dX6_place_34 ?_
        refine xaload_n C 0 rfl dX6_place_37 ?_
        refine gX6_53 C dX6_place_38 ?_
        refine xtopi (y := nI (kn K)) (hK.n) ?_
        refine xiload_n C 1 rfl dX6_place_41 ?_
        refine ms_top C (kn K) (by omega) dX6_place_42 ?_
        refine xaload_n C 0 rfl dX6_place_43 ?_
        refine gX6_13 C dX6_place_44 ?_
        refine xaload_n C 0 rfl dX6_place_47 ?_
        refine gX6_53 C dX6_place_48 ?_
        refine xtopi (y := nI (kn K)) (hK.n) ?_
        refine xiload_n C 2 rfl dX6_place_51 ?_
        refine ms_si C (kn K) (by omega) dX6_place_52 ?_
        refine xaload_n C 0 rfl dX6_place_53 ?_
        refine gX6_16 C dX6_place_54 ?_
        refine xaload_n C 0 rfl dX6_place_57 ?_
        refine gX6_53 C dX6_place_58 ?_
        refine xtopi (y := nI (kn K)) (hK.n) ?_
        refine xiconst (v := -1) C dX6_place_61 (by decide) ?_
        refine ms_hd C (kn K) (by omega) dX6_place_62 ?_
        refine xaload_n C 0 rfl dX6_place_63 ?_
        refine xdup C dX6_place_64 rfl ?_
        refine gX6_53 C dX6_place_65 ?_
        refine xtopi (y := nI (kn K)) (hK.n) ?_
        refine xiconst (v := nI 1) C dX6_place_68 (by decide) ?_
        refine xiaddN C dX6_place_69 ?_
        refine pX6_53 C dX6_place_70 ?_
        refine xaload_n C 0 rfl dX6_place_73 ?_
        refine xcVV C (c_X6_changed (CFG.addP hK hW (by omega) p q) (hW.addP hp1 hp5 hq1 (by omega)) sd (by rw [va_up_ne _ _ (by decide)]; exact hsd)) yk_X6_changed 0 rfl rfl xml_X6_72 ⟨⟨Nat.le_of_ble_eq_true rfl, Nat.le_of_ble_eq_true rfl⟩, ⟨rfl, rfl⟩, ⟨Nat.zero_le _, Nat.zero_le _⟩⟩ rfl (Nat.le_of_ble_eq_true rfl) dX6_place_74 (fun wE hE => ?_)
        obtain ⟨IS, FS, rfl, hRS⟩ := hE
        refine xaload_n C 0 rfl dX6_place_77 ?_
        refine gX6_53 C dX6_place_78 ?_
        refine xtopi (y := nI (kn K + 1)) (hRS.1.n) ?_
        refine xiconst (v := nI 1) C dX6_place_81 (by decide) ?_
        refine xisubN C (by omega) dX6_place_82 ?_
        exact xret C hR (rfl) dX6_place_83 (MO.mk (by rw [opPlace, ci_f (fun q => q.elim hin1.1 (fun q => q.elim hin1.2 (fun q => q.elim hin2.1 hin2.2))), ci_f (by omega), show cl (nI p) = p from nI_clamp (by omega), show cl (nI q) = q from nI_clamp (by omega), show kn K + 1 - 1 = kn K by omega]) hRS)
      ·
        refine xbipush (v := -4) C dX6_place_30 (by decide) ?_
        exact xret C hR (rfl) dX6_place_32 (MO.mk (by rw [opPlace, ci_f (fun q => q.elim (bn_1 h6).1 (fun q => q.elim (bn_1 h6).2 (fun q => q.elim (bn_1 h15).1 (bn_1 h15).2))), ci_t (by omega)]) hX)
    ·
      refine xbipush (v := -2) C dX6_place_18 (by decide) ?_
      exact xret C hR (rfl) dX6_place_20 (MO.mk (by rw [opPlace, ci_t ((nand (bn_0 h15)).elim (fun q => Or.inr (Or.inr (Or.inl q))) (fun q => Or.inr (Or.inr (Or.inr q))))]) hX)
theorem dX6_isLinked_0 : decode cX6_isLinked 0 = .ok (.iconst 0, 1) := by decide +kernel
theorem dX6_isLinked_1 : decode cX6_isLinked 1 = .ok (.istore_n 3, 1) := by decide +kernel
theorem dX6_isLinked_2 : decode cX6_isLinked 2 = .ok (.iconst 0, 1) := by decide +kernel
theorem dX6_isLinked_3 : decode cX6_isLinked 3 = .ok (.istore 4, 2) := by decide +kernel
theorem dX6_isLinked_5 : decode cX6_isLinked 5 = .ok (.iload 4, 2) := by decide +kernel
theorem dX6_isLinked_7 : decode cX6_isLinked 7 = .ok (.aload_n 0, 1) := by decide +kernel
theorem dX6_isLinked_8 : decode cX6_isLinked 8 = .ok (.getfield 19, 3) := by decide +kernel
theorem dX6_isLinked_11 : decode cX6_isLinked 11 = .ok (.iload_n 1, 1) := by decide +kernel
theorem dX6_isLinked_12 : decode cX6_isLinked 12 = .ok (.iaload, 1) := by decide +kernel
theorem dX6_isLinked_13 : decode cX6_isLinked 13 = .ok (.if_icmp .ge 35, 3) := by decide +kernel
theorem dX6_isLinked_16 : decode cX6_isLinked 16 = .ok (.iload_n 3, 1) := by decide +kernel
theorem dX6_isLinked_17 : decode cX6_isLinked 17 = .ok (.ifCond .ne 19, 3) := by decide +kernel
theorem dX6_isLinked_20 : decode cX6_isLinked 20 = .ok (.aload_n 0, 1) := by decide +kernel
theorem dX6_isLinked_21 : decode cX6_isLinked 21 = .ok (.getfield 22, 3) := by decide +kernel
theorem dX6_isLinked_24 : decode cX6_isLinked 24 = .ok (.bipush 6, 2) := by decide +kernel
theorem dX6_isLinked_26 : decode cX6_isLinked 26 = .ok (.iload_n 1, 1) := by decide +kernel
theorem dX6_isLinked_27 : decode cX6_isLinked 27 = .ok (.imul, 1) := by decide +kernel
theorem dX6_isLinked_28 : decode cX6_isLinked 28 = .ok (.iload 4, 2) := by decide +kernel
theorem dX6_isLinked_30 : decode cX6_isLinked 30 = .ok (.iadd, 1) := by decide +kernel
theorem dX6_isLinked_31 : decode cX6_isLinked 31 = .ok (.iaload, 1) := by decide +kernel
theorem dX6_isLinked_32 : decode cX6_isLinked 32 = .ok (.iload_n 2, 1) := by decide +kernel
theorem dX6_isLinked_33 : decode cX6_isLinked 33 = .ok (.if_icmp .ne 7, 3) := by decide +kernel
theorem dX6_isLinked_36 : decode cX6_isLinked 36 = .ok (.iconst 1, 1) := by decide +kernel
theorem dX6_isLinked_37 : decode cX6_isLinked 37 = .ok (.goto 4, 3) := by decide +kernel
theorem dX6_isLinked_40 : decode cX6_isLinked 40 = .ok (.iconst 0, 1) := by decide +kernel
theorem dX6_isLinked_41 : decode cX6_isLinked 41 = .ok (.istore_n 3, 1) := by decide +kernel
theorem dX6_isLinked_42 : decode cX6_isLinked 42 = .ok (.iinc 4 1, 3) := by decide +kernel
theorem dX6_isLinked_45 : decode cX6_isLinked 45 = .ok (.goto (-40), 3) := by decide +kernel
theorem dX6_isLinked_48 : decode cX6_isLinked 48 = .ok (.iload_n 3, 1) := by decide +kernel
theorem dX6_isLinked_49 : decode cX6_isLinked 49 = .ok (.ireturn, 1) := by decide +kernel
def rX6_isLinked : Room := { frames := 0, cells := 0, slots := 0, locals := 0 }
theorem yk_X6_isLinked : YK yX6_isLinked cX6_isLinked 5 (some .boolean) 2 := ⟨xim_X6_isLinked, xse_X6_isLinked, xin_X6, xco_X6_isLinked, by decide +kernel⟩
set_option maxRecDepth 4000 in
theorem c_X6_isLinked {l : Launch} {D : va_G} {t : Nat → ClassId} {b : Nat → Nat} {I : Nat → Int32} {F : Nat → Nat → Int32} {K : Cfg} (hK : CFG K I F) (hW : WFK K) (p : Nat) (hp : p < kn K) (q : Nat) (hq : q < kn K) : CT l D t yX6_isLinked cX6_isLinked 5 (some .boolean) rX6_isLinked 0 0 [.ref (b 0), .int (nI p), .int (nI q)] (WM b t I F) (RP (.int (nI (bn (lkdP K p q)))) (WM b t I F)) := by
  refine CT.of (by decide +kernel) (by simp [lg_sl, Value.category]) (fun X C hR => ?_)
  refine xlocals (lv' := [(0, .ref (b 0)), (1, .int (nI p)), (2, .int (nI q))]) rfl ?_
  have fn24 := hW.n24; have fm60 := hW.m60; have fk2 := hW.k2; have fu1 := hW.u1; have fu9 := hW.u9; have fv1 := hW.v1; have fv9 := hW.v9
  refine xiconst (v := nI 0) C dX6_isLinked_0 (by decide) ?_
  refine xistore_n (lv' := [(3, .int (nI 0)), (0, .ref (b 0)), (1, .int (nI p)), (2, .int (nI q))]) C dX6_isLinked_1 (by decide) rfl ?_
  refine xiconst (v := nI 0) C dX6_isLinked_2 (by decide) ?_
  refine xistore (lv' := [(4, .int (nI 0)), (3, .int (nI 0)), (0, .ref (b 0)), (1, .int (nI p)), (2, .int (nI q))]) C dX6_isLinked_3 (by decide) rfl ?_
  refine xlocals (lv' := [(4, .int (nI 0)), (3, .int (nI (bn (∃ x, x < 0 ∧ knb K p x = q)))), (0, .ref (b 0)), (1, .int (nI p)), (2, .int (nI q))]) (by rw [bn_f (P := ∃ x, x < 0 ∧ knb K p x = q) (fun ⟨x, h, _⟩ => absurd h (Nat.not_lt_zero _))]) ?_
  have LP5 : ∀ (fu5 : Nat) (i : Nat) (hi : i ≤ kdg K p), kdg K p - i < fu5 → XW X 0 0 (WM b t I F) [(0, .ref (b 0)), (1, .int (nI p)), (2, .int (nI q)), (3, .int (nI (bn (∃ x, x < i ∧ knb K p x = q)))), (4, .int (nI i))] 5 [] := by
    intro fu5
    induction fu5 with
    | zero => intro i hi hm5; exact absurd hm5 (Nat.not_lt_zero _)
    | succ fu5 ih5 =>
      intro i hi hm5
      refine xiload C 4 rfl dX6_isLinked_5 ?_
      refine xaload_n C 0 rfl dX6_isLinked_7 ?_
      refine gX6_19 C dX6_isLinked_8 ?_
      refine xiload_n C 1 rfl dX6_isLinked_11 ?_
      refine ma_dg C hK hW p (by omega) dX6_isLinked_12 ?_
      have fb12 := hW.dg6 p
      refine xicmp_geN C 48 dX6_isLinked_13 (by decide) (by omega) (by omega) (fun h13 => ?_) (fun h13 => ?_)
      ·
        refine xiload_n C 3 rfl dX6_isLinked_48 ?_
        exact xret C hR (nar_bn _) dX6_isLinked_49 (RPn (bn_iff (by (have e : i = kdg K p := (by omega)); subst e; exact Iff.rfl)))
      ·
        refine xiload_n C 3 rfl dX6_isLinked_16 ?_
        refine xif_neN C 36 dX6_isLinked_17 (by decide) (bn_lt _) (fun h17 => ?_) (fun h17 => ?_)
        ·
          refine xiconst (v := nI 1) C dX6_isLinked_36 (by decide) ?_
          refine xgoto C 41 dX6_isLinked_37 (by decide) ?_
          refine xtopi (y := nI (bn (∃ x, x < i + 1 ∧ knb K p x = q))) (by rw [bn_t (P := ∃ x, x < i + 1 ∧ knb K p x = q) (by obtain ⟨x, h, h2⟩ := bn_1 h17; exact ⟨x, by omega, h2⟩)]) ?_
          refine xistore_n (lv' := [(3, .int (nI (bn (∃ x, x < i + 1 ∧ knb K p x = q)))), (0, .ref (b 0)), (1, .int (nI p)), (2, .int (nI q)), (4, .int (nI i))]) C dX6_isLinked_41 (by decide) rfl ?_
          refine xiincN (lv' := [(4, .int (nI (i + 1))), (3, .int (nI (bn (∃ x, x < i + 1 ∧ knb K p x = q)))), (0, .ref (b 0)), (1, .int (nI p)), (2, .int (nI q))]) C 4 rfl dX6_isLinked_42 (by decide) rfl ?_
          refine xgoto C 5 dX6_isLinked_45 (by decide) ?_
          refine xsub [2, 3, 4, 1, 0] rfl ?_
          exact ih5 (i + 1) (by omega) (by omega)
        ·
          refine xaload_n C 0 rfl dX6_isLinked_20 ?_
          refine gX6_22 C dX6_isLinked_21 ?_
          refine xbipush (v := nI 6) C dX6_isLinked_24 (by decide) ?_
          refine xiload_n C 1 rfl dX6_isLinked_26 ?_
          refine ximulN C dX6_isLinked_27 ?_
          refine xiload C 4 rfl dX6_isLinked_28 ?_
          refine xiaddN C dX6_isLinked_30 ?_
          refine ma_nb C hK hW p i (by omega) (by omega) dX6_isLinked_31 ?_
          have fb31 := hW.nb (show p < kn K by omega) (show i < kdg K p by omega)
          refine xiload_n C 2 rfl dX6_isLinked_32 ?_
          refine xicmp_neN C 40 dX6_isLinked_33 (by decide) (by omega) (by omega) (fun h33 => ?_) (fun h33 => ?_)
          ·
            refine xiconst (v := nI 0) C dX6_isLinked_40 (by decide) ?_
            refine xtopi (y := nI (bn (∃ x, x < i + 1 ∧ knb K p x = q))) (by rw [bn_f (P := ∃ x, x < i + 1 ∧ knb K p x = q) (exS_not (fun z => absurd (bn_t z) (by omega)) h33)]) ?_
            refine xistore_n (lv' := [(3, .int (nI (bn (∃ x, x < i + 1 ∧ knb K p x = q)))), (0, .ref (b 0)), (1, .int (nI p)), (2, .int (nI q)), (4, .int (nI i))]) C dX6_isLinked_41 (by decide) rfl ?_
            refine xiincN (lv' := [(4, .int (nI (i + 1))), (3, .int (nI (bn (∃ x, x < i + 1 ∧ knb K p x = q)))), (0, .ref (b 0)), (1, .int (nI p)), (2, .int (nI q))]) C 4 rfl dX6_isLinked_42 (by decide) rfl ?_
            refine xgoto C 5 dX6_isLinked_45 (by decide) ?_
            refine xsub [2, 3, 4, 1, 0] rfl ?_
            exact ih5 (i + 1) (by omega) (by omega)
          ·
            refine xiconst (v := nI 1) C dX6_isLinked_36 (by decide) ?_
            refine xgoto C 41 dX6_isLinked_37 (by decide) ?_
            refine xtopi (y := nI (bn (∃ x, x < i + 1 ∧ knb K p x = q))) (by rw [bn_t (P := ∃ x, x < i + 1 ∧ knb K p x = q) ⟨i, by omega, h33⟩]) ?_
            refine xistore_n (lv' := [(3, .int (nI (bn (∃ x, x < i + 1 ∧ knb K p x = q)))), (0, .ref (b 0)), (1, .int (nI p)), (2, .int (nI q)), (4, .int (nI i))]) C dX6_isLinked_41 (by decide) rfl ?_
            refine xiincN (lv' := [(4, .int (nI (i + 1))), (3, .int (nI (bn (∃ x, x < i + 1 ∧ knb K p x = q)))), (0, .ref (b 0)), (1, .int (nI p)), (2, .int (nI q))]) C 4 rfl dX6_isLinked_42 (by decide) rfl ?_
            refine xgoto C 5 dX6_isLinked_45 (by decide) ?_
            refine xsub [2, 3, 4, 1, 0] rfl ?_
            exact ih5 (i + 1) (by omega) (by omega)
  refine xsub [2, 3, 4, 1, 0] rfl ?_
  exact LP5 _ 0 (Nat.zero_le _) (Nat.lt_succ_self _)
theorem dX6_addNear_0 : decode cX6_addNear 0 = .ok (.aload_n 0, 1) := by decide +kernel
theorem dX6_addNear_1 : decode cX6_addNear 1 = .ok (.getfield 19, 3) := by decide +kernel
theorem dX6_addNear_4 : decode cX6_addNear 4 = .ok (.iload_n 1, 1) := by decide +kernel
theorem dX6_addNear_5 : decode cX6_addNear 5 = .ok (.iaload, 1) := by decide +kernel
theorem dX6_addNear_6 : decode cX6_addNear 6 = .ok (.istore_n 3, 1) := by decide +kernel
theorem dX6_addNear_7 : decode cX6_addNear 7 = .ok (.iload_n 3, 1) := by decide +kernel
theorem dX6_addNear_8 : decode cX6_addNear 8 = .ok (.ifCond .le 50, 3) := by decide +kernel
theorem dX6_addNear_11 : decode cX6_addNear 11 = .ok (.aload_n 0, 1) := by decide +kernel
theorem dX6_addNear_12 : decode cX6_addNear 12 = .ok (.getfield 22, 3) := by decide +kernel
theorem dX6_addNear_15 : decode cX6_addNear 15 = .ok (.bipush 6, 2) := by decide +kernel
theorem dX6_addNear_17 : decode cX6_addNear 17 = .ok (.iload_n 1, 1) := by decide +kernel
theorem dX6_addNear_18 : decode cX6_addNear 18 = .ok (.imul, 1) := by decide +kernel
theorem dX6_addNear_19 : decode cX6_addNear 19 = .ok (.iload_n 3, 1) := by decide +kernel
theorem dX6_addNear_20 : decode cX6_addNear 20 = .ok (.iadd, 1) := by decide +kernel
theorem dX6_addNear_21 : decode cX6_addNear 21 = .ok (.iconst 1, 1) := by decide +kernel
theorem dX6_addNear_22 : decode cX6_addNear 22 = .ok (.isub, 1) := by decide +kernel
theorem dX6_addNear_23 : decode cX6_addNear 23 = .ok (.iaload, 1) := by decide +kernel
theorem dX6_addNear_24 : decode cX6_addNear 24 = .ok (.iload_n 2, 1) := by decide +kernel
theorem dX6_addNear_25 : decode cX6_addNear 25 = .ok (.if_icmp .le 33, 3) := by decide +kernel
theorem dX6_addNear_28 : decode cX6_addNear 28 = .ok (.aload_n 0, 1) := by decide +kernel
theorem dX6_addNear_29 : decode cX6_addNear 29 = .ok (.getfield 22, 3) := by decide +kernel
theorem dX6_addNear_32 : decode cX6_addNear 32 = .ok (.bipush 6, 2) := by decide +kernel
theorem dX6_addNear_34 : decode cX6_addNear 34 = .ok (.iload_n 1, 1) := by decide +kernel
theorem dX6_addNear_35 : decode cX6_addNear 35 = .ok (.imul, 1) := by decide +kernel
theorem dX6_addNear_36 : decode cX6_addNear 36 = .ok (.iload_n 3, 1) := by decide +kernel
theorem dX6_addNear_37 : decode cX6_addNear 37 = .ok (.iadd, 1) := by decide +kernel
theorem dX6_addNear_38 : decode cX6_addNear 38 = .ok (.aload_n 0, 1) := by decide +kernel
theorem dX6_addNear_39 : decode cX6_addNear 39 = .ok (.getfield 22, 3) := by decide +kernel
theorem dX6_addNear_42 : decode cX6_addNear 42 = .ok (.bipush 6, 2) := by decide +kernel
theorem dX6_addNear_44 : decode cX6_addNear 44 = .ok (.iload_n 1, 1) := by decide +kernel
theorem dX6_addNear_45 : decode cX6_addNear 45 = .ok (.imul, 1) := by decide +kernel
theorem dX6_addNear_46 : decode cX6_addNear 46 = .ok (.iload_n 3, 1) := by decide +kernel
theorem dX6_addNear_47 : decode cX6_addNear 47 = .ok (.iadd, 1) := by decide +kernel
theorem dX6_addNear_48 : decode cX6_addNear 48 = .ok (.iconst 1, 1) := by decide +kernel
theorem dX6_addNear_49 : decode cX6_addNear 49 = .ok (.isub, 1) := by decide +kernel
theorem dX6_addNear_50 : decode cX6_addNear 50 = .ok (.iaload, 1) := by decide +kernel
theorem dX6_addNear_51 : decode cX6_addNear 51 = .ok (.iastore, 1) := by decide +kernel
theorem dX6_addNear_52 : decode cX6_addNear 52 = .ok (.iinc 3 (-1), 3) := by decide +kernel
theorem dX6_addNear_55 : decode cX6_addNear 55 = .ok (.goto (-48), 3) := by decide +kernel
theorem dX6_addNear_58 : decode cX6_addNear 58 = .ok (.aload_n 0, 1) := by decide +kernel
theorem dX6_addNear_59 : decode cX6_addNear 59 = .ok (.getfield 22, 3) := by decide +kernel
theorem dX6_addNear_62 : decode cX6_addNear 62 = .ok (.bipush 6, 2) := by decide +kernel
theorem dX6_addNear_64 : decode cX6_addNear 64 = .ok (.iload_n 1, 1) := by decide +kernel
theorem dX6_addNear_65 : decode cX6_addNear 65 = .ok (.imul, 1) := by decide +kernel
theorem dX6_addNear_66 : decode cX6_addNear 66 = .ok (.iload_n 3, 1) := by decide +kernel
theorem dX6_addNear_67 : decode cX6_addNear 67 = .ok (.iadd, 1) := by decide +kernel
theorem dX6_addNear_68 : decode cX6_addNear 68 = .ok (.iload_n 2, 1) := by decide +kernel
theorem dX6_addNear_69 : decode cX6_addNear 69 = .ok (.iastore, 1) := by decide +kernel
theorem dX6_addNear_70 : decode cX6_addNear 70 = .ok (.aload_n 0, 1) := by decide +kernel
theorem dX6_addNear_71 : decode cX6_addNear 71 = .ok (.getfield 19, 3) := by decide +kernel
theorem dX6_addNear_74 : decode cX6_addNear 74 = .ok (.iload_n 1, 1) := by decide +kernel
theorem dX6_addNear_75 : decode cX6_addNear 75 = .ok (.dup2, 1) := by decide +kernel
theorem dX6_addNear_76 : decode cX6_addNear 76 = .ok (.iaload, 1) := by decide +kernel
theorem dX6_addNear_77 : decode cX6_addNear 77 = .ok (.iconst 1, 1) := by decide +kernel
theorem dX6_addNear_78 : decode cX6_addNear 78 = .ok (.iadd, 1) := by decide +kernel
theorem dX6_addNear_79 : decode cX6_addNear 79 = .ok (.iastore, 1) := by decide +kernel
theorem dX6_addNear_80 : decode cX6_addNear 80 = .ok (.return_, 1) := by decide +kernel
def rX6_addNear : Room := { frames := 0, cells := 0, slots := 0, locals := 0 }
theorem yk_X6_addNear : YK yX6_addNear cX6_addNear 4 none 2 := ⟨xim_X6_addNear, xse_X6_addNear, xin_X6, xco_X6_addNear, by decide +kernel⟩
set_option maxRecDepth 4000 in
theorem c_X6_addNear {l : Launch} {D : va_G} {t : Nat → ClassId} {b : Nat → Nat} {I : Nat → Int32} {F : Nat → Nat → Int32} (p : Nat) (hp : p < 24) (q : Nat) (hq : q < 24) (d : Nat) (hd : d < 6) (f : Nat → Nat) (h3 : F 3 p = nI d) (hf : ∀ x, x < d → F (13 + p) x = nI (f x) ∧ f x < 24) : CT l D t yX6_addNear cX6_addNear 4 none rX6_addNear 0 0 [.ref (b 0), .int (nI p), .int (nI q)] (WM b t I F) (VP (fun w => ∃ F' : Nat → Nat → Int32, w = WM b t I F' ∧ (∀ j, j ≠ 13 + p → j ≠ 3 → F' j = F j) ∧ (∀ x, x ≤ d → F' (13 + p) x = nI (insN f q d x)) ∧ F' 3 = upd (F 3) p (nI (d + 1)))) := by
  refine CT.of (by decide +kernel) (by simp [lg_sl, Value.category]) (fun X C hR => ?_)
  refine xlocals (lv' := [(0, .ref (b 0)), (1, .int (nI p)), (2, .int (nI q))]) rfl ?_
  refine xaload_n C 0 rfl dX6_addNear_0 ?_
  refine gX6_19 C dX6_addNear_1 ?_
  refine xiload_n C 1 rfl dX6_addNear_4 ?_
  refine ma_dgr C p (by omega) dX6_addNear_5 ?_
  refine xtopi (y := nI d) h3 ?_
  refine xistore_n (lv' := [(3, .int (nI d)), (0, .ref (b 0)), (1, .int (nI p)), (2, .int (nI q))]) C dX6_addNear_6 (by decide) rfl ?_
  have LP7 : ∀ (fu7 : Nat) (i : Nat) (fc : Nat → Nat) (FA : Nat → Nat → Int32) (hi : i ≤ d) (hfin : insN fc q i = insN f q d) (hrel : ∀ x, x ≤ d → x ≠ i → FA (13 + p) x = nI (fc x) ∧ fc x < 24) (hXA : ∀ j, j ≠ 13 + p → FA j = F j), i < fu7 → XW X 0 0 (WM b t I FA) [(0, .ref (b 0)), (1, .int (nI p)), (2, .int (nI q)), (3, .int (nI i))] 7 [] := by
    intro fu7
    induction fu7 with
    | zero => intro i fc FA hi hfin hrel hXA hm7; exact absurd hm7 (Nat.not_lt_zero _)
    | succ fu7 ih7 =>
      intro i fc FA hi hfin hrel hXA hm7
      refine xiload_n C 3 rfl dX6_addNear_7 ?_
      refine xif_leN C 58 dX6_addNear_8 (by decide) (by omega) (fun h8 => ?_) (fun h8 => ?_)
      ·
        refine xaload_n C 0 rfl dX6_addNear_58 ?_
        refine gX6_22 C dX6_addNear_59 ?_
        refine xbipush (v := nI 6) C dX6_addNear_62 (by decide) ?_
        refine xiload_n C 1 rfl dX6_addNear_64 ?_
        refine ximulN C dX6_addNear_65 ?_
        refine xiload_n C 3 rfl dX6_addNear_66 ?_
        refine xiaddN C dX6_addNear_67 ?_
        refine xiload_n C 2 rfl dX6_addNear_68 ?_
        refine ms_near C p i (by omega) (by omega) dX6_addNear_69 ?_
        obtain ⟨F2, eF2⟩ : ∃ z : Nat → Nat → Int32, z = va_up FA (13 + p) (upd (FA (13 + p)) i (nI q)) := ⟨_, rfl⟩
        refine xworld (ws' := WM b t I F2) (by rw [eF2]) ?_
        have h3b : F2 3 p = nI d := by rw [eF2, va_up_ne _ _ (by omega), hXA 3 (by omega)]; exact h3
        refine xaload_n C 0 rfl dX6_addNear_70 ?_
        refine gX6_19 C dX6_addNear_71 ?_
        refine xiload_n C 1 rfl dX6_addNear_74 ?_
        refine xdup2 C dX6_addNear_75 rfl rfl ?_
        refine ma_dgr C p (by omega) dX6_addNear_76 ?_
        refine xtopi (y := nI d) h3b ?_
        refine xiconst (v := nI 1) C dX6_addNear_77 (by decide) ?_
        refine xiaddN C dX6_addNear_78 ?_
        refine ms_dg C p (by omega) dX6_addNear_79 ?_
        exact xvret C hR dX6_addNear_80 (⟨rfl, _, rfl, fun j h1 h2 => by rw [va_up_ne _ _ h2, eF2, va_up_ne _ _ h1]; exact hXA j h1, fun x hx => by rw [va_up_ne _ _ (by omega), eF2, va_up_self]; exact insN_end hfin hrel (Or.inl h8) x hx, by rw [va_up_self, eF2, va_up_ne _ _ (by omega), hXA 3 (by omega)]⟩)
      ·
        refine xaload_n C 0 rfl dX6_addNear_11 ?_
        refine gX6_22 C dX6_addNear_12 ?_
        refine xbipush (v := nI 6) C dX6_addNear_15 (by decide) ?_
        refine xiload_n C 1 rfl dX6_addNear_17 ?_
        refine ximulN C dX6_addNear_18 ?_
        refine xiload_n C 3 rfl dX6_addNear_19 ?_
        refine xiaddN C dX6_addNear_20 ?_
        refine xiconst (v := nI 1) C dX6_addNear_21 (by decide) ?_
        refine xisubN C (by omega) dX6_addNear_22 ?_
        refine xtop1i (y := nI (6 * p + (i - 1))) (by rw [show ((6 * p) + i) - 1 = 6 * p + (i - 1) by omega]) ?_
        refine ma_near C p ((i - 1)) (by omega) (by omega) dX6_addNear_23 ?_
        have hr25 := hrel (i - 1) (by omega) (by omega)
        refine xtopi (y := nI (fc (i - 1))) hr25.1 ?_
        refine xiload_n C 2 rfl dX6_addNear_24 ?_
        refine xicmp_leN C 58 dX6_addNear_25 (by decide) (by omega) (by omega) (fun h25 => ?_) (fun h25 => ?_)
        ·
          refine xaload_n C 0 rfl dX6_addNear_58 ?_
          refine gX6_22 C dX6_addNear_59 ?_
          refine xbipush (v := nI 6) C dX6_addNear_62 (by decide) ?_
          refine xiload_n C 1 rfl dX6_addNear_64 ?_
          refine ximulN C dX6_addNear_65 ?_
          refine xiload_n C 3 rfl dX6_addNear_66 ?_
          refine xiaddN C dX6_addNear_67 ?_
          refine xiload_n C 2 rfl dX6_addNear_68 ?_
          refine ms_near C p i (by omega) (by omega) dX6_addNear_69 ?_
          obtain ⟨F2, eF2⟩ : ∃ z : Nat → Nat → Int32, z = va_up FA (13 + p) (upd (FA (13 + p)) i (nI q)) := ⟨_, rfl⟩
          refine xworld (ws' := WM b t I F2) (by rw [eF2]) ?_
          have h3b : F2 3 p = nI d := by rw [eF2, va_up_ne _ _ (by omega), hXA 3 (by omega)]; exact h3
          refine xaload_n C 0 rfl dX6_addNear_70 ?_
          refine gX6_19 C dX6_addNear_71 ?_
          refine xiload_n C 1 rfl dX6_addNear_74 ?_
          refine xdup2 C dX6_addNear_75 rfl rfl ?_
          refine ma_dgr C p (by omega) dX6_addNear_76 ?_
          refine xtopi (y := nI d) h3b ?_
          refine xiconst (v := nI 1) C dX6_addNear_77 (by decide) ?_
          refine xiaddN C dX6_addNear_78 ?_
          refine ms_dg C p (by omega) dX6_addNear_79 ?_
          exact xvret C hR dX6_addNear_80 (⟨rfl, _, rfl, fun j h1 h2 => by rw [va_up_ne _ _ h2, eF2, va_up_ne _ _ h1]; exact hXA j h1, fun x hx => by rw [va_up_ne _ _ (by omega), eF2, va_up_self]; exact insN_end hfin hrel (Or.inr ⟨h8, h25⟩) x hx, by rw [va_up_self, eF2, va_up_ne _ _ (by omega), hXA 3 (by omega)]⟩)
        ·
          refine xaload_n C 0 rfl dX6_addNear_28 ?_
          refine gX6_22 C dX6_addNear_29 ?_
          refine xbipush (v := nI 6) C dX6_addNear_32 (by decide) ?_
          refine xiload_n C 1 rfl dX6_addNear_34 ?_
          refine ximulN C dX6_addNear_35 ?_
          refine xiload_n C 3 rfl dX6_addNear_36 ?_
          refine xiaddN C dX6_addNear_37 ?_
          refine xaload_n C 0 rfl dX6_addNear_38 ?_
          refine gX6_22 C dX6_addNear_39 ?_
          refine xbipush (v := nI 6) C dX6_addNear_42 (by decide) ?_
          refine xiload_n C 1 rfl dX6_addNear_44 ?_
          refine ximulN C dX6_addNear_45 ?_
          refine xiload_n C 3 rfl dX6_addNear_46 ?_
          refine xiaddN C dX6_addNear_47 ?_
          refine xiconst (v := nI 1) C dX6_addNear_48 (by decide) ?_
          refine xisubN C (by omega) dX6_addNear_49 ?_
          refine xtop1i (y := nI (6 * p + (i - 1))) (by rw [show ((6 * p) + i) - 1 = 6 * p + (i - 1) by omega]) ?_
          refine ma_near C p ((i - 1)) (by omega) (by omega) dX6_addNear_50 ?_
          refine xtopi (y := nI (fc (i - 1))) hr25.1 ?_
          refine ms_near C p i (by omega) (by omega) dX6_addNear_51 ?_
          obtain ⟨F1, eF1⟩ : ∃ z : Nat → Nat → Int32, z = va_up FA (13 + p) (upd (FA (13 + p)) i (nI (fc (i - 1)))) := ⟨_, rfl⟩
          refine xworld (ws' := WM b t I F1) (by rw [eF1]) ?_
          refine xidecN (lv' := [(3, .int (nI (i - 1))), (0, .ref (b 0)), (1, .int (nI p)), (2, .int (nI q))]) C (by omega) 3 rfl dX6_addNear_52 (by decide) rfl ?_
          refine xgoto C 7 dX6_addNear_55 (by decide) ?_
          refine xsub [1, 2, 3, 0] rfl ?_
          exact ih7 (i - 1) (va_up fc i (fc (i - 1))) F1 (by omega) (insN_step hfin (by omega) (by omega)) (insN_rel hrel (by omega) (by omega) eF1) (fun j hj => by rw [eF1, va_up_ne _ _ hj]; exact hXA j hj) (by omega)
  refine xsub [1, 2, 3, 0] rfl ?_
  exact LP7 _ d f F (Nat.le_refl _) rfl (fun x h1 h2 => hf x (by omega)) (fun _ _ => rfl) (Nat.lt_succ_self _)
theorem dX6_link_0 : decode cX6_link 0 = .ok (.aload_n 0, 1) := by decide +kernel
theorem dX6_link_1 : decode cX6_link 1 = .ok (.iload_n 1, 1) := by decide +kernel
theorem dX6_link_2 : decode cX6_link 2 = .ok (.invokevirtual 75, 3) := by decide +kernel
theorem dX6_link_5 : decode cX6_link 5 = .ok (.ifCond .eq 11, 3) := by decide +kernel
theorem dX6_link_8 : decode cX6_link 8 = .ok (.aload_n 0, 1) := by decide +kernel
theorem dX6_link_9 : decode cX6_link 9 = .ok (.iload_n 2, 1) := by decide +kernel
theorem dX6_link_10 : decode cX6_link 10 = .ok (.invokevirtual 75, 3) := by decide +kernel
theorem dX6_link_13 : decode cX6_link 13 = .ok (.ifCond .ne 5, 3) := by decide +kernel
theorem dX6_link_16 : decode cX6_link 16 = .ok (.iconst (-1), 1) := by decide +kernel
theorem dX6_link_17 : decode cX6_link 17 = .ok (.ireturn, 1) := by decide +kernel
theorem dX6_link_18 : decode cX6_link 18 = .ok (.aload_n 0, 1) := by decide +kernel
theorem dX6_link_19 : decode cX6_link 19 = .ok (.getfield 79, 3) := by decide +kernel
theorem dX6_link_22 : decode cX6_link 22 = .ok (.bipush 60, 2) := by decide +kernel
theorem dX6_link_24 : decode cX6_link 24 = .ok (.if_icmp .eq 25, 3) := by decide +kernel
theorem dX6_link_27 : decode cX6_link 27 = .ok (.aload_n 0, 1) := by decide +kernel
theorem dX6_link_28 : decode cX6_link 28 = .ok (.getfield 19, 3) := by decide +kernel
theorem dX6_link_31 : decode cX6_link 31 = .ok (.iload_n 1, 1) := by decide +kernel
theorem dX6_link_32 : decode cX6_link 32 = .ok (.iaload, 1) := by decide +kernel
theorem dX6_link_33 : decode cX6_link 33 = .ok (.bipush 6, 2) := by decide +kernel
theorem dX6_link_35 : decode cX6_link 35 = .ok (.if_icmp .eq 14, 3) := by decide +kernel
theorem dX6_link_38 : decode cX6_link 38 = .ok (.aload_n 0, 1) := by decide +kernel
theorem dX6_link_39 : decode cX6_link 39 = .ok (.getfield 19, 3) := by decide +kernel
theorem dX6_link_42 : decode cX6_link 42 = .ok (.iload_n 2, 1) := by decide +kernel
theorem dX6_link_43 : decode cX6_link 43 = .ok (.iaload, 1) := by decide +kernel
theorem dX6_link_44 : decode cX6_link 44 = .ok (.bipush 6, 2) := by decide +kernel
theorem dX6_link_46 : decode cX6_link 46 = .ok (.if_icmp .ne 6, 3) := by decide +kernel
theorem dX6_link_49 : decode cX6_link 49 = .ok (.bipush (-4), 2) := by decide +kernel
theorem dX6_link_51 : decode cX6_link 51 = .ok (.ireturn, 1) := by decide +kernel
theorem dX6_link_52 : decode cX6_link 52 = .ok (.iload_n 1, 1) := by decide +kernel
theorem dX6_link_53 : decode cX6_link 53 = .ok (.iload_n 2, 1) := by decide +kernel
theorem dX6_link_54 : decode cX6_link 54 = .ok (.if_icmp .eq 12, 3) := by decide +kernel
theorem dX6_link_57 : decode cX6_link 57 = .ok (.aload_n 0, 1) := by decide +kernel
theorem dX6_link_58 : decode cX6_link 58 = .ok (.iload_n 1, 1) := by decide +kernel
theorem dX6_link_59 : decode cX6_link 59 = .ok (.iload_n 2, 1) := by decide +kernel
theorem dX6_link_60 : decode cX6_link 60 = .ok (.invokevirtual 82, 3) := by decide +kernel
theorem dX6_link_63 : decode cX6_link 63 = .ok (.ifCond .eq 6, 3) := by decide +kernel
theorem dX6_link_66 : decode cX6_link 66 = .ok (.bipush (-5), 2) := by decide +kernel
theorem dX6_link_68 : decode cX6_link 68 = .ok (.ireturn, 1) := by decide +kernel
theorem dX6_link_69 : decode cX6_link 69 = .ok (.aload_n 0, 1) := by decide +kernel
theorem dX6_link_70 : decode cX6_link 70 = .ok (.getfield 25, 3) := by decide +kernel
theorem dX6_link_73 : decode cX6_link 73 = .ok (.aload_n 0, 1) := by decide +kernel
theorem dX6_link_74 : decode cX6_link 74 = .ok (.getfield 79, 3) := by decide +kernel
theorem dX6_link_77 : decode cX6_link 77 = .ok (.iload_n 1, 1) := by decide +kernel
theorem dX6_link_78 : decode cX6_link 78 = .ok (.iastore, 1) := by decide +kernel
theorem dX6_link_79 : decode cX6_link 79 = .ok (.aload_n 0, 1) := by decide +kernel
theorem dX6_link_80 : decode cX6_link 80 = .ok (.getfield 28, 3) := by decide +kernel
theorem dX6_link_83 : decode cX6_link 83 = .ok (.aload_n 0, 1) := by decide +kernel
theorem dX6_link_84 : decode cX6_link 84 = .ok (.getfield 79, 3) := by decide +kernel
theorem dX6_link_87 : decode cX6_link 87 = .ok (.iload_n 2, 1) := by decide +kernel
theorem dX6_link_88 : decode cX6_link 88 = .ok (.iastore, 1) := by decide +kernel
theorem dX6_link_89 : decode cX6_link 89 = .ok (.aload_n 0, 1) := by decide +kernel
theorem dX6_link_90 : decode cX6_link 90 = .ok (.dup, 1) := by decide +kernel
theorem dX6_link_91 : decode cX6_link 91 = .ok (.getfield 79, 3) := by decide +kernel
theorem dX6_link_94 : decode cX6_link 94 = .ok (.iconst 1, 1) := by decide +kernel
theorem dX6_link_95 : decode cX6_link 95 = .ok (.iadd, 1) := by decide +kernel
theorem dX6_link_96 : decode cX6_link 96 = .ok (.putfield 79, 3) := by decide +kernel
theorem dX6_link_99 : decode cX6_link 99 = .ok (.aload_n 0, 1) := by decide +kernel
theorem dX6_link_100 : decode cX6_link 100 = .ok (.iload_n 1, 1) := by decide +kernel
theorem dX6_link_101 : decode cX6_link 101 = .ok (.iload_n 2, 1) := by decide +kernel
theorem dX6_link_102 : decode cX6_link 102 = .ok (.invokevirtual 86, 3) := by decide +kernel
theorem dX6_link_105 : decode cX6_link 105 = .ok (.aload_n 0, 1) := by decide +kernel
theorem dX6_link_106 : decode cX6_link 106 = .ok (.iload_n 2, 1) := by decide +kernel
theorem dX6_link_107 : decode cX6_link 107 = .ok (.iload_n 1, 1) := by decide +kernel
theorem dX6_link_108 : decode cX6_link 108 = .ok (.invokevirtual 86, 3) := by decide +kernel
theorem dX6_link_111 : decode cX6_link 111 = .ok (.aload_n 0, 1) := by decide +kernel
theorem dX6_link_112 : decode cX6_link 112 = .ok (.invokevirtual 72, 3) := by decide +kernel
theorem dX6_link_115 : decode cX6_link 115 = .ok (.aload_n 0, 1) := by decide +kernel
theorem dX6_link_116 : decode cX6_link 116 = .ok (.getfield 79, 3) := by decide +kernel
theorem dX6_link_119 : decode cX6_link 119 = .ok (.ireturn, 1) := by decide +kernel
def rX6_link : Room := { frames := 3, cells := 0, slots := 0, locals := 69 }
theorem yk_X6_link : YK yX6_link cX6_link 3 (some .int) 2 := ⟨xim_X6_link, xse_X6_link, xin_X6, xco_X6_link, by decide +kernel⟩
set_option maxRecDepth 4000 in
theorem c_X6_link {l : Launch} {D : va_G} {t : Nat → ClassId} {b : Nat → Nat} {I : Nat → Int32} {F : Nat → Nat → Int32} {K : Cfg} {sd : Int32} {hd : Nat → Nat} {dk : Bool} {dw : Nat → Nat} {mt : Int32} (hI : INV (K, sd, hd, dk, dw, mt)) (hX : RM (K, sd, hd, dk, dw, mt) I F) (x y : Int32) : CT l D t yX6_link cX6_link 3 (some .int) rX6_link 0 0 [.ref (b 0), .int x, .int y] (WM b t I F) (MO b t (opLink (K, sd, hd, dk, dw, mt) x y)) := by
  refine CT.of (by decide +kernel) (by simp [lg_sl, Value.category]) (fun X C hR => ?_)
  refine xlocals (lv' := [(0, .ref (b 0)), (1, .int x), (2, .int y)]) rfl ?_
  obtain ⟨hK, hsd, hHd, hdk, hdr⟩ := id hX
  have hW : WFK K := hI.1
  have hrg := hI.2.1
  have fn24 := hW.n24; have fm60 := hW.m60; have fk2 := hW.k2; have fu1 := hW.u1; have fu9 := hW.u9; have fv1 := hW.v1; have fv9 := hW.v9
  refine xaload_n C 0 rfl dX6_link_0 ?_
  refine xiload_n C 1 rfl dX6_link_1 ?_
  refine xcVR C (c_X6_isPlace hK hW x) yk_X6_isPlace 0 rfl rfl xml_X6_75 ⟨⟨Nat.le_of_ble_eq_true rfl, Nat.le_of_ble_eq_true rfl⟩, ⟨rfl, rfl⟩, ⟨Nat.zero_le _, Nat.zero_le _⟩⟩ rfl (Nat.le_of_ble_eq_true rfl) dX6_link_2 ?_
  refine xif_eqN C 16 dX6_link_5 (by decide) (bn_lt _) (fun h5 => ?_) (fun h5 => ?_)
  ·
    have h5 := bn_0 h5
    refine xiconst (v := -1) C dX6_link_16 (by decide) ?_
    exact xret C hR (rfl) dX6_link_17 (MO.mk (by rw [opLink, ci_t (Or.inl h5)]) hX)
  ·
    obtain ⟨p, hp, rfl⟩ := (bn_1 h5).nat hW
    refine xaload_n C 0 rfl dX6_link_8 ?_
    refine xiload_n C 2 rfl dX6_link_9 ?_
    refine xcVR C (c_X6_isPlace hK hW y) yk_X6_isPlace 0 rfl rfl xml_X6_75 ⟨⟨Nat.le_of_ble_eq_true rfl, Nat.le_of_ble_eq_true rfl⟩, ⟨rfl, rfl⟩, ⟨Nat.zero_le _, Nat.zero_le _⟩⟩ rfl (Nat.le_of_ble_eq_true rfl) dX6_link_10 ?_
    refine xif_neN C 18 dX6_link_13 (by decide) (bn_lt _) (fun h13 => ?_) (fun h13 => ?_)
    ·
      obtain ⟨q, hq, rfl⟩ := (bn_1 h13).nat hW
      refine xaload_n C 0 rfl dX6_link_18 ?_
      refine gX6_79K C hK dX6_link_19 ?_
      refine xbipush (v := nI 60) C dX6_link_22 (by decide) ?_
      refine xicmp_eqN C 49 dX6_link_24 (by decide) (by omega) (by omega) (fun h24 => ?_) (fun h24 => ?_)
      ·
        refine xbipush (v := -4) C dX6_link_49 (by decide) ?_
        exact xret C hR (rfl) dX6_link_51 (MO.mk (by rw [opLink, ci_f (fun q => q.elim (fun q => q (hasP_nat hW hp)) (fun q => q (hasP_nat hW hq))), show cl (nI p) = p from nI_clamp (by omega), show cl (nI q) = q from nI_clamp (by omega), ci_t (Or.inl (by omega))]) hX)
      ·
        refine xaload_n C 0 rfl dX6_link_27 ?_
        refine gX6_19 C dX6_link_28 ?_
        refine xiload_n C 1 rfl dX6_link_31 ?_
        refine ma_dg C hK hW p (by omega) dX6_link_32 ?_
        have fb32 := hW.dg6 p
        refine xbipush (v := nI 6) C dX6_link_33 (by decide) ?_
        refine xicmp_eqN C 49 dX6_link_35 (by decide) (by omega) (by omega) (fun h35 => ?_) (fun h35 => ?_)
        ·
          refine xbipush (v := -4) C dX6_link_49 (by decide) ?_
          exact xret C hR (rfl) dX6_link_51 (MO.mk (by rw [opLink, ci_f (fun q => q.elim (fun q => q (hasP_nat hW hp)) (fun q => q (hasP_nat hW hq))), show cl (nI p) = p from nI_clamp (by omega), show cl (nI q) = q from nI_clamp (by omega), ci_t (Or.inr (Or.inl (by omega)))]) hX)
        ·
          refine xaload_n C 0 rfl dX6_link_38 ?_
          refine gX6_19 C dX6_link_39 ?_
          refine xiload_n C 2 rfl dX6_link_42 ?_
          refine ma_dg C hK hW q (by omega) dX6_link_43 ?_
          have fb43 := hW.dg6 q
          refine xbipush (v := nI 6) C dX6_link_44 (by decide) ?_
          refine xicmp_neN C 52 dX6_link_46 (by decide) (by omega) (by omega) (fun h46 => ?_) (fun h46 => ?_)
          ·
            refine xiload_n C 1 rfl dX6_link_52 ?_
            refine xiload_n C 2 rfl dX6_link_53 ?_
            refine xicmp_eqN C 66 dX6_link_54 (by decide) (by omega) (by omega) (fun h54 => ?_) (fun h54 => ?_)
            ·
              refine xbipush (v := -5) C dX6_link_66 (by decide) ?_
              exact xret C hR (rfl) dX6_link_68 (MO.mk (by rw [opLink, ci_f (fun q => q.elim (fun q => q (hasP_nat hW hp)) (fun q => q (hasP_nat hW hq))), show cl (nI p) = p from nI_clamp (by omega), show cl (nI q) = q from nI_clamp (by omega), ci_f (fun q => q.elim (by omega) (fun q => q.elim (by omega) (by omega))), ci_t (Or.inl (by rw [h54]))]) hX)
            ·
              refine xaload_n C 0 rfl dX6_link_57 ?_
              refine xiload_n C 1 rfl dX6_link_58 ?_
              refine xiload_n C 2 rfl dX6_link_59 ?_
              refine xcVR C (c_X6_isLinked hK hW p (by omega) q (by omega)) yk_X6_isLinked 0 rfl rfl xml_X6_82 ⟨⟨Nat.le_of_ble_eq_true rfl, Nat.le_of_ble_eq_true rfl⟩, ⟨rfl, rfl⟩, ⟨Nat.zero_le _, Nat.zero_le _⟩⟩ rfl (Nat.le_of_ble_eq_true rfl) dX6_link_60 ?_
              refine xif_eqN C 69 dX6_link_63 (by decide) (bn_lt _) (fun h63 => ?_) (fun h63 => ?_)
              ·
                have h63 := bn_0 h63
                refine xaload_n C 0 rfl dX6_link_69 ?_
                refine gX6_25 C dX6_link_70 ?_
                refine xaload_n C 0 rfl dX6_link_73 ?_
                refine gX6_79 C dX6_link_74 ?_
                refine xtopi (y := nI (km K)) (hK.m) ?_
                refine xiload_n C 1 rfl dX6_link_77 ?_
                refine ms_la C (km K) (show _ < 60 by omega) dX6_link_78 ?_
                refine xaload_n C 0 rfl dX6_link_79 ?_
                refine gX6_28 C dX6_link_80 ?_
                refine xaload_n C 0 rfl dX6_link_83 ?_
                refine gX6_79 C dX6_link_84 ?_
                refine xtopi (y := nI (km K)) (hK.m) ?_
                refine xiload_n C 2 rfl dX6_link_87 ?_
                refine ms_lb C (km K) (show _ < 60 by omega) dX6_link_88 ?_
                obtain ⟨FA, eFA⟩ : ∃ z : Nat → Nat → Int32, z = va_up (va_up F 4 (upd (F 4) (km K) (nI p))) 5 (upd ((va_up F 4 (upd (F 4) (km K) (nI p))) 5) (km K) (nI q)) := ⟨_, rfl⟩
                refine xworld (ws' := WM b t I FA) (by rw [eFA]) ?_
                have hXA : ∀ j, j ≠ 4 → j ≠ 5 → FA j = F j := fun j h1 h2 => by rw [eFA, va_up_ne _ _ h2, va_up_ne _ _ h1]
                refine xaload_n C 0 rfl dX6_link_89 ?_
                refine xdup C dX6_link_90 rfl ?_
                refine gX6_79 C dX6_link_91 ?_
                refine xtopi (y := nI (km K)) (hK.m) ?_
                refine xiconst (v := nI 1) C dX6_link_94 (by decide) ?_
                refine xiaddN C dX6_link_95 ?_
                refine pX6_79 C dX6_link_96 ?_
                refine xaload_n C 0 rfl dX6_link_99 ?_
                refine xiload_n C 1 rfl dX6_link_100 ?_
                refine xiload_n C 2 rfl dX6_link_101 ?_
                refine xcVV C (c_X6_addNear p (by omega) q (by omega) (kdg K p) (by omega) (knb K p) (by rw [hXA 3 (by omega) (by omega)]; exact hK.dg (by omega)) (fun x hx => ⟨by rw [hXA _ (by omega) (by omega)]; exact hK.nb hp hx, by have := hW.nb hp hx; omega⟩)) yk_X6_addNear 0 rfl rfl xml_X6_86 ⟨⟨Nat.le_of_ble_eq_true rfl, Nat.le_of_ble_eq_true rfl⟩, ⟨rfl, rfl⟩, ⟨Nat.zero_le _, Nat.zero_le _⟩⟩ rfl (Nat.le_of_ble_eq_true rfl) dX6_link_102 (fun wE hE => ?_)
                obtain ⟨FB, rfl, hB1, hB2, hB3⟩ := hE
                refine xaload_n C 0 rfl dX6_link_105 ?_
                refine xiload_n C 2 rfl dX6_link_106 ?_
                refine xiload_n C 1 rfl dX6_link_107 ?_
                refine xcVV C (c_X6_addNear q (by omega) p (by omega) (kdg K q) (by omega) (knb K q) (by rw [hB3]; unfold upd; rw [if_neg (fun z => h54 z.symm), hXA 3 (by omega) (by omega)]; exact hK.dg (by omega)) (fun x hx => ⟨by rw [hB1 _ (by omega) (by omega), hXA _ (by omega) (by omega)]; exact hK.nb hq hx, by have := hW.nb hq hx; omega⟩)) yk_X6_addNear 0 rfl rfl xml_X6_86 ⟨⟨Nat.le_of_ble_eq_true rfl, Nat.le_of_ble_eq_true rfl⟩, ⟨rfl, rfl⟩, ⟨Nat.zero_le _, Nat.zero_le _⟩⟩ rfl (Nat.le_of_ble_eq_true rfl) dX6_link_108 (fun wE hE => ?_)
                obtain ⟨FC, rfl, hC1, hC2, hC3⟩ := hE
                have hKC := CFG.addL hK hW (by omega) hp hq h54 (by omega) (by omega) (FA := FA) (fun j h1 h2 => by rw [eFA, va_up_ne _ _ h2, va_up_ne _ _ h1]) (by rw [eFA, va_up_ne _ _ (by decide), va_up_self]) (by rw [eFA, va_up_self, va_up_ne _ _ (by decide)]) hB1 hB2 hB3 hC1 hC2 hC3
                refine xaload_n C 0 rfl dX6_link_111 ?_
                refine xcVV C (c_X6_changed hKC (hW.addL (by omega) hp hq h54 (by omega) (by omega)) sd (by rw [va_up_ne _ _ (by decide)]; exact hsd)) yk_X6_changed 0 rfl rfl xml_X6_72 ⟨⟨Nat.le_of_ble_eq_true rfl, Nat.le_of_ble_eq_true rfl⟩, ⟨rfl, rfl⟩, ⟨Nat.zero_le _, Nat.zero_le _⟩⟩ rfl (Nat.le_of_ble_eq_true rfl) dX6_link_112 (fun wE hE => ?_)
                obtain ⟨IS, FS, rfl, hRS⟩ := hE
                refine xaload_n C 0 rfl dX6_link_115 ?_
                refine gX6_79 C dX6_link_116 ?_
                refine xtopi (y := nI (km K + 1)) (hRS.1.m) ?_
                exact xret C hR (rfl) dX6_link_119 (MO.mk (by rw [opLink, ci_f (fun q => q.elim (fun q => q (hasP_nat hW hp)) (fun q => q (hasP_nat hW hq))), show cl (nI p) = p from nI_clamp (by omega), show cl (nI q) = q from nI_clamp (by omega), ci_f (fun q => q.elim (by omega) (fun q => q.elim (by omega) (by omega))), ci_f (fun q => q.elim (fun q => h54 ((nI_eq (by omega) (by omega)).mp q)) h63)]) hRS)
              ·
                have h63 := bn_1 h63
                refine xbipush (v := -5) C dX6_link_66 (by decide) ?_
                exact xret C hR (rfl) dX6_link_68 (MO.mk (by rw [opLink, ci_f (fun q => q.elim (fun q => q (hasP_nat hW hp)) (fun q => q (hasP_nat hW hq))), show cl (nI p) = p from nI_clamp (by omega), show cl (nI q) = q from nI_clamp (by omega), ci_f (fun q => q.elim (by omega) (fun q => q.elim (by omega) (by omega))), ci_t (Or.inr h63)]) hX)
          ·
            refine xbipush (v := -4) C dX6_link_49 (by decide) ?_
            exact xret C hR (rfl) dX6_link_51 (MO.mk (by rw [opLink, ci_f (fun q => q.elim (fun q => q (hasP_nat hW hp)) (fun q => q (hasP_nat hW hq))), show cl (nI p) = p from nI_clamp (by omega), show cl (nI q) = q from nI_clamp (by omega), ci_t (Or.inr (Or.inr (by omega)))]) hX)
    ·
      have h13 := bn_0 h13
      refine xiconst (v := -1) C dX6_link_16 (by decide) ?_
      exact xret C hR (rfl) dX6_link_17 (MO.mk (by rw [opLink, ci_t (Or.inr h13)]) hX)
theorem dX6_kind_0 : decode cX6_kind 0 = .ok (.iload_n 1, 1) := by decide +kernel
theorem dX6_kind_1 : decode cX6_kind 1 = .ok (.iconst 0, 1) := by decide +kernel
theorem dX6_kind_2 : decode cX6_kind 2 = .ok (.iconst 2, 1) := by decide +kernel
theorem dX6_kind_3 : decode cX6_kind 3 = .ok (.invokestatic 56, 3) := by decide +kernel
theorem dX6_kind_6 : decode cX6_kind 6 = .ok (.ifCond .eq 23, 3) := by decide +kernel
theorem dX6_kind_9 : decode cX6_kind 9 = .ok (.iload_n 2, 1) := by decide +kernel
theorem dX6_kind_10 : decode cX6_kind 10 = .ok (.iconst 1, 1) := by decide +kernel
theorem dX6_kind_11 : decode cX6_kind 11 = .ok (.bipush 9, 2) := by decide +kernel
theorem dX6_kind_13 : decode cX6_kind 13 = .ok (.invokestatic 56, 3) := by decide +kernel
theorem dX6_kind_16 : decode cX6_kind 16 = .ok (.ifCond .eq 13, 3) := by decide +kernel
theorem dX6_kind_19 : decode cX6_kind 19 = .ok (.iload_n 3, 1) := by decide +kernel
theorem dX6_kind_20 : decode cX6_kind 20 = .ok (.iconst 1, 1) := by decide +kernel
theorem dX6_kind_21 : decode cX6_kind 21 = .ok (.bipush 9, 2) := by decide +kernel
theorem dX6_kind_23 : decode cX6_kind 23 = .ok (.invokestatic 56, 3) := by decide +kernel
theorem dX6_kind_26 : decode cX6_kind 26 = .ok (.ifCond .ne 6, 3) := by decide +kernel
theorem dX6_kind_29 : decode cX6_kind 29 = .ok (.bipush (-2), 2) := by decide +kernel
theorem dX6_kind_31 : decode cX6_kind 31 = .ok (.ireturn, 1) := by decide +kernel
theorem dX6_kind_32 : decode cX6_kind 32 = .ok (.aload_n 0, 1) := by decide +kernel
theorem dX6_kind_33 : decode cX6_kind 33 = .ok (.iload_n 1, 1) := by decide +kernel
theorem dX6_kind_34 : decode cX6_kind 34 = .ok (.putfield 90, 3) := by decide +kernel
theorem dX6_kind_37 : decode cX6_kind 37 = .ok (.aload_n 0, 1) := by decide +kernel
theorem dX6_kind_38 : decode cX6_kind 38 = .ok (.iload_n 2, 1) := by decide +kernel
theorem dX6_kind_39 : decode cX6_kind 39 = .ok (.putfield 31, 3) := by decide +kernel
theorem dX6_kind_42 : decode cX6_kind 42 = .ok (.aload_n 0, 1) := by decide +kernel
theorem dX6_kind_43 : decode cX6_kind 43 = .ok (.iload_n 3, 1) := by decide +kernel
theorem dX6_kind_44 : decode cX6_kind 44 = .ok (.putfield 35, 3) := by decide +kernel
theorem dX6_kind_47 : decode cX6_kind 47 = .ok (.aload_n 0, 1) := by decide +kernel
theorem dX6_kind_48 : decode cX6_kind 48 = .ok (.invokevirtual 72, 3) := by decide +kernel
theorem dX6_kind_51 : decode cX6_kind 51 = .ok (.iconst 1, 1) := by decide +kernel
theorem dX6_kind_52 : decode cX6_kind 52 = .ok (.ireturn, 1) := by decide +kernel
def rX6_kind : Room := { frames := 3, cells := 0, slots := 0, locals := 69 }
theorem yk_X6_kind : YK yX6_kind cX6_kind 4 (some .int) 3 := ⟨xim_X6_kind, xse_X6_kind, xin_X6, xco_X6_kind, by decide +kernel⟩
set_option maxRecDepth 4000 in
theorem c_X6_kind {l : Launch} {D : va_G} {t : Nat → ClassId} {b : Nat → Nat} {I : Nat → Int32} {F : Nat → Nat → Int32} {K : Cfg} {sd : Int32} {hd : Nat → Nat} {dk : Bool} {dw : Nat → Nat} {mt : Int32} (hI : INV (K, sd, hd, dk, dw, mt)) (hX : RM (K, sd, hd, dk, dw, mt) I F) (x y z : Int32) : CT l D t yX6_kind cX6_kind 4 (some .int) rX6_kind 0 0 [.ref (b 0), .int x, .int y, .int z] (WM b t I F) (MO b t (opKind (K, sd, hd, dk, dw, mt) x y z)) := by
  refine CT.of (by decide +kernel) (by simp [lg_sl, Value.category]) (fun X C hR => ?_)
  refine xlocals (lv' := [(0, .ref (b 0)), (1, .int x), (2, .int y), (3, .int z)]) rfl ?_
  obtain ⟨hK, hsd, hHd, hdk, hdr⟩ := id hX
  have hW : WFK K := hI.1
  have hrg := hI.2.1
  have fn24 := hW.n24; have fm60 := hW.m60; have fk2 := hW.k2; have fu1 := hW.u1; have fu9 := hW.u9; have fv1 := hW.v1; have fv9 := hW.v9
  refine xiload_n C 1 rfl dX6_kind_0 ?_
  refine xiconst (v := 0) C dX6_kind_1 (by decide) ?_
  refine xiconst (v := 2) C dX6_kind_2 (by decide) ?_
  refine xcSR C (c_X6_in x 0 2) sk_X6_in xml_X6_56 ⟨⟨Nat.le_of_ble_eq_true rfl, Nat.le_of_ble_eq_true rfl⟩, ⟨rfl, rfl⟩, ⟨Nat.zero_le _, Nat.zero_le _⟩⟩ rfl (Nat.le_of_ble_eq_true rfl) dX6_kind_3 ?_
  refine xif_eqN C 29 dX6_kind_6 (by decide) (bn_lt _) (fun h6 => ?_) (fun h6 => ?_)
  ·
    refine xbipush (v := -2) C dX6_kind_29 (by decide) ?_
    exact xret C hR (rfl) dX6_kind_31 (MO.mk (by rw [opKind, ci_t ((nand (bn_0 h6)).elim Or.inl (fun q => Or.inr (Or.inl q)))]) hX)
  ·
    refine xiload_n C 2 rfl dX6_kind_9 ?_
    refine xiconst (v := 1) C dX6_kind_10 (by decide) ?_
    refine xbipush (v := 9) C dX6_kind_11 (by decide) ?_
    refine xcSR C (c_X6_in y 1 9) sk_X6_in xml_X6_56 ⟨⟨Nat.le_of_ble_eq_true rfl, Nat.le_of_ble_eq_true rfl⟩, ⟨rfl, rfl⟩, ⟨Nat.zero_le _, Nat.zero_le _⟩⟩ rfl (Nat.le_of_ble_eq_true rfl) dX6_kind_13 ?_
    refine xif_eqN C 29 dX6_kind_16 (by decide) (bn_lt _) (fun h16 => ?_) (fun h16 => ?_)
    ·
      refine xbipush (v := -2) C dX6_kind_29 (by decide) ?_
      exact xret C hR (rfl) dX6_kind_31 (MO.mk (by rw [opKind, ci_t ((nand (bn_0 h16)).elim (fun q => Or.inr (Or.inr (Or.inl q))) (fun q => Or.inr (Or.inr (Or.inr (Or.inl q)))))]) hX)
    ·
      refine xiload_n C 3 rfl dX6_kind_19 ?_
      refine xiconst (v := 1) C dX6_kind_20 (by decide) ?_
      refine xbipush (v := 9) C dX6_kind_21 (by decide) ?_
      refine xcSR C (c_X6_in z 1 9) sk_X6_in xml_X6_56 ⟨⟨Nat.le_of_ble_eq_true rfl, Nat.le_of_ble_eq_true rfl⟩, ⟨rfl, rfl⟩, ⟨Nat.zero_le _, Nat.zero_le _⟩⟩ rfl (Nat.le_of_ble_eq_true rfl) dX6_kind_23 ?_
      refine xif_neN C 32 dX6_kind_26 (by decide) (bn_lt _) (fun h26 => ?_) (fun h26 => ?_)
      ·
        have hi1 := bn_1 h6
        have hi2 := bn_1 h16
        have hi3 := bn_1 h26
        obtain ⟨p, hp2, rfl⟩ := box02 hi1.1 hi1.2
        obtain ⟨q, hq1, hq9, rfl⟩ := box19 hi2.1 hi2.2
        obtain ⟨r, hr1, hr9, rfl⟩ := box19 hi3.1 hi3.2
        refine xaload_n C 0 rfl dX6_kind_32 ?_
        refine xiload_n C 1 rfl dX6_kind_33 ?_
        refine pX6_90 C dX6_kind_34 ?_
        refine xaload_n C 0 rfl dX6_kind_37 ?_
        refine xiload_n C 2 rfl dX6_kind_38 ?_
        refine pX6_31 C dX6_kind_39 ?_
        refine xaload_n C 0 rfl dX6_kind_42 ?_
        refine xiload_n C 3 rfl dX6_kind_43 ?_
        refine pX6_35 C dX6_kind_44 ?_
        refine xaload_n C 0 rfl dX6_kind_47 ?_
        refine xcVV C (c_X6_changed (hK.setK p q r) (hW.setK hp2 hq1 hq9 hr1 hr9) sd (by rw [va_up_ne _ _ (by decide), va_up_ne _ _ (by decide), va_up_ne _ _ (by decide)]; exact hsd)) yk_X6_changed 0 rfl rfl xml_X6_72 ⟨⟨Nat.le_of_ble_eq_true rfl, Nat.le_of_ble_eq_true rfl⟩, ⟨rfl, rfl⟩, ⟨Nat.zero_le _, Nat.zero_le _⟩⟩ rfl (Nat.le_of_ble_eq_true rfl) dX6_kind_48 (fun wE hE => ?_)
        obtain ⟨IS, FS, rfl, hRS⟩ := hE
        refine xiconst (v := nI 1) C dX6_kind_51 (by decide) ?_
        exact xret C hR (rfl) dX6_kind_52 (MO.mk (by rw [opKind, ci_f (fun q => q.elim hi1.1 (fun q => q.elim hi1.2 (fun q => q.elim hi2.1 (fun q => q.elim hi2.2 (fun q => q.elim hi3.1 hi3.2))))), show cl (nI p) = p from nI_clamp (by omega), show cl (nI q) = q from nI_clamp (by omega), show cl (nI r) = r from nI_clamp (by omega), nI_one]) hRS)
      ·
        refine xbipush (v := -2) C dX6_kind_29 (by decide) ?_
        exact xret C hR (rfl) dX6_kind_31 (MO.mk (by rw [opKind, ci_t ((nand (bn_0 h26)).elim (fun q => Or.inr (Or.inr (Or.inr (Or.inr (Or.inl q))))) (fun q => Or.inr (Or.inr (Or.inr (Or.inr (Or.inr q))))))]) hX)
theorem dX6_hold_0 : decode cX6_hold 0 = .ok (.aload_n 0, 1) := by decide +kernel
theorem dX6_hold_1 : decode cX6_hold 1 = .ok (.iload_n 1, 1) := by decide +kernel
theorem dX6_hold_2 : decode cX6_hold 2 = .ok (.invokevirtual 75, 3) := by decide +kernel
theorem dX6_hold_5 : decode cX6_hold 5 = .ok (.ifCond .ne 5, 3) := by decide +kernel
theorem dX6_hold_8 : decode cX6_hold 8 = .ok (.iconst (-1), 1) := by decide +kernel
theorem dX6_hold_9 : decode cX6_hold 9 = .ok (.ireturn, 1) := by decide +kernel
theorem dX6_hold_10 : decode cX6_hold 10 = .ok (.iload_n 2, 1) := by decide +kernel
theorem dX6_hold_11 : decode cX6_hold 11 = .ok (.iconst (-1), 1) := by decide +kernel
theorem dX6_hold_12 : decode cX6_hold 12 = .ok (.aload_n 0, 1) := by decide +kernel
theorem dX6_hold_13 : decode cX6_hold 13 = .ok (.getfield 7, 3) := by decide +kernel
theorem dX6_hold_16 : decode cX6_hold 16 = .ok (.iload_n 1, 1) := by decide +kernel
theorem dX6_hold_17 : decode cX6_hold 17 = .ok (.iaload, 1) := by decide +kernel
theorem dX6_hold_18 : decode cX6_hold 18 = .ok (.invokestatic 56, 3) := by decide +kernel
theorem dX6_hold_21 : decode cX6_hold 21 = .ok (.ifCond .ne 6, 3) := by decide +kernel
theorem dX6_hold_24 : decode cX6_hold 24 = .ok (.bipush (-2), 2) := by decide +kernel
theorem dX6_hold_26 : decode cX6_hold 26 = .ok (.ireturn, 1) := by decide +kernel
theorem dX6_hold_27 : decode cX6_hold 27 = .ok (.aload_n 0, 1) := by decide +kernel
theorem dX6_hold_28 : decode cX6_hold 28 = .ok (.getfield 16, 3) := by decide +kernel
theorem dX6_hold_31 : decode cX6_hold 31 = .ok (.iload_n 1, 1) := by decide +kernel
theorem dX6_hold_32 : decode cX6_hold 32 = .ok (.iaload, 1) := by decide +kernel
theorem dX6_hold_33 : decode cX6_hold 33 = .ok (.istore_n 3, 1) := by decide +kernel
theorem dX6_hold_34 : decode cX6_hold 34 = .ok (.aload_n 0, 1) := by decide +kernel
theorem dX6_hold_35 : decode cX6_hold 35 = .ok (.getfield 16, 3) := by decide +kernel
theorem dX6_hold_38 : decode cX6_hold 38 = .ok (.iload_n 1, 1) := by decide +kernel
theorem dX6_hold_39 : decode cX6_hold 39 = .ok (.iload_n 2, 1) := by decide +kernel
theorem dX6_hold_40 : decode cX6_hold 40 = .ok (.iastore, 1) := by decide +kernel
theorem dX6_hold_41 : decode cX6_hold 41 = .ok (.aload_n 0, 1) := by decide +kernel
theorem dX6_hold_42 : decode cX6_hold 42 = .ok (.invokevirtual 72, 3) := by decide +kernel
theorem dX6_hold_45 : decode cX6_hold 45 = .ok (.iload_n 3, 1) := by decide +kernel
theorem dX6_hold_46 : decode cX6_hold 46 = .ok (.ireturn, 1) := by decide +kernel
def rX6_hold : Room := { frames := 3, cells := 0, slots := 0, locals := 69 }
theorem yk_X6_hold : YK yX6_hold cX6_hold 4 (some .int) 2 := ⟨xim_X6_hold, xse_X6_hold, xin_X6, xco_X6_hold, by decide +kernel⟩
set_option maxRecDepth 4000 in
theorem c_X6_hold {l : Launch} {D : va_G} {t : Nat → ClassId} {b : Nat → Nat} {I : Nat → Int32} {F : Nat → Nat → Int32} {K : Cfg} {sd : Int32} {hd : Nat → Nat} {dk : Bool} {dw : Nat → Nat} {mt : Int32} (hI : INV (K, sd, hd, dk, dw, mt)) (hX : RM (K, sd, hd, dk, dw, mt) I F) (x y : Int32) : CT l D t yX6_hold cX6_hold 4 (some .int) rX6_hold 0 0 [.ref (b 0), .int x, .int y] (WM b t I F) (MO b t (opHold (K, sd, hd, dk, dw, mt) x y)) := by
  refine CT.of (by decide +kernel) (by simp [lg_sl, Value.category]) (fun X C hR => ?_)
  refine xlocals (lv' := [(0, .ref (b 0)), (1, .int x), (2, .int y)]) rfl ?_
  obtain ⟨hK, hsd, hHd, hdk, hdr⟩ := id hX
  have hW : WFK K := hI.1
  have hrg := hI.2.1
  have fn24 := hW.n24; have fm60 := hW.m60; have fk2 := hW.k2; have fu1 := hW.u1; have fu9 := hW.u9; have fv1 := hW.v1; have fv9 := hW.v9
  refine xaload_n C 0 rfl dX6_hold_0 ?_
  refine xiload_n C 1 rfl dX6_hold_1 ?_
  refine xcVR C (c_X6_isPlace hK hW x) yk_X6_isPlace 0 rfl rfl xml_X6_75 ⟨⟨Nat.le_of_ble_eq_true rfl, Nat.le_of_ble_eq_true rfl⟩, ⟨rfl, rfl⟩, ⟨Nat.zero_le _, Nat.zero_le _⟩⟩ rfl (Nat.le_of_ble_eq_true rfl) dX6_hold_2 ?_
  refine xif_neN C 10 dX6_hold_5 (by decide) (bn_lt _) (fun h5 => ?_) (fun h5 => ?_)
  ·
    obtain ⟨p, hp, rfl⟩ := (bn_1 h5).nat hW
    refine xiload_n C 2 rfl dX6_hold_10 ?_
    refine xiconst (v := -1) C dX6_hold_11 (by decide) ?_
    refine xaload_n C 0 rfl dX6_hold_12 ?_
    refine gX6_7 C dX6_hold_13 ?_
    refine xiload_n C 1 rfl dX6_hold_16 ?_
    refine ma_top C hK hW p (by omega) dX6_hold_17 ?_
    have fb17 := (hW.top5 (by omega))
    refine xcSR C (c_X6_in y (-1) (nI (ktop K p))) sk_X6_in xml_X6_56 ⟨⟨Nat.le_of_ble_eq_true rfl, Nat.le_of_ble_eq_true rfl⟩, ⟨rfl, rfl⟩, ⟨Nat.zero_le _, Nat.zero_le _⟩⟩ rfl (Nat.le_of_ble_eq_true rfl) dX6_hold_18 ?_
    refine xif_neN C 27 dX6_hold_21 (by decide) (bn_lt _) (fun h21 => ?_) (fun h21 => ?_)
    ·
      obtain ⟨q, hq, hy0, hy1⟩ := boxH (hW.top5 hp) (bn_1 h21).1 (bn_1 h21).2
      refine xaload_n C 0 rfl dX6_hold_27 ?_
      refine gX6_16 C dX6_hold_28 ?_
      refine xiload_n C 1 rfl dX6_hold_31 ?_
      refine ma_hd C hK hW p (by omega) dX6_hold_32 ?_
      have fb32 := (hW.hd6 (by omega))
      refine xistore_n (lv' := [(3, .int (nI (khd K p) - 1)), (0, .ref (b 0)), (1, .int (nI p)), (2, .int y)]) C dX6_hold_33 (by decide) rfl ?_
      refine xaload_n C 1 rfl dX6_hold_34 ?_
      refine gX6_16 C dX6_hold_35 ?_
      refine xiload_n C 2 rfl dX6_hold_38 ?_
      refine xiload_n C 3 rfl dX6_hold_39 ?_
      refine ms_hd C p (show _ < 24 by omega) dX6_hold_40 ?_
      obtain ⟨FA, eFA⟩ : ∃ z : Nat → Nat → Int32, z = va_up F 2 (upd (F 2) p y) := ⟨_, rfl⟩
      refine xworld (ws' := WM b t I FA) (by rw [eFA]) ?_
      refine xaload_n C 1 rfl dX6_hold_41 ?_
      refine xcVV C (c_X6_changed (hK.setH hp (by rw [eFA, va_up_self, hy0]) (fun z hz => by rw [eFA, va_up_ne _ _ hz])) (hW.setH hp hq) sd hsd) yk_X6_changed 0 rfl rfl xml_X6_72 ⟨⟨Nat.le_of_ble_eq_true rfl, Nat.le_of_ble_eq_true rfl⟩, ⟨rfl, rfl⟩, ⟨Nat.zero_le _, Nat.zero_le _⟩⟩ rfl (Nat.le_of_ble_eq_true rfl) dX6_hold_42 (fun wE hE => ?_)
      obtain ⟨IS, FS, rfl, hRS⟩ := hE
      refine xiload_n C 0 rfl dX6_hold_45 ?_
      exact xret C hR (rfl) dX6_hold_46 (MO.mk (by rw [opHold, ci_f (fun q => q (hasP_nat hW hp)), show cl (nI p) = p from nI_clamp (by omega), ci_f (fun q => q.elim (bn_1 h21).1 (bn_1 h21).2), show cl (y + 1) = q from by rw [hy1]; exact nI_clamp (by omega)]) hRS)
    ·
      refine xbipush (v := -2) C dX6_hold_24 (by decide) ?_
      exact xret C hR (rfl) dX6_hold_26 (MO.mk (by rw [opHold, ci_f (fun q => q (hasP_nat hW hp)), show cl (nI p) = p from nI_clamp (by omega), ci_t (nand (bn_0 h21))]) hX)
  ·
    have h5 := bn_0 h5
    refine xiconst (v := -1) C dX6_hold_8 (by decide) ?_
    exact xret C hR (rfl) dX6_hold_9 (MO.mk (by rw [opHold, ci_t h5]) hX)
theorem dX6_good_0 : decode cX6_good 0 = .ok (.aload_n 0, 1) := by decide +kernel
theorem dX6_good_1 : decode cX6_good 1 = .ok (.invokevirtual 64, 3) := by decide +kernel
theorem dX6_good_4 : decode cX6_good 4 = .ok (.ifCond .eq 7, 3) := by decide +kernel
theorem dX6_good_7 : decode cX6_good 7 = .ok (.iconst 1, 1) := by decide +kernel
theorem dX6_good_8 : decode cX6_good 8 = .ok (.goto 4, 3) := by decide +kernel
theorem dX6_good_11 : decode cX6_good 11 = .ok (.iconst 0, 1) := by decide +kernel
theorem dX6_good_12 : decode cX6_good 12 = .ok (.ireturn, 1) := by decide +kernel
def rX6_good : Room := { frames := 2, cells := 0, slots := 0, locals := 47 }
theorem yk_X6_good : YK yX6_good cX6_good 1 (some .int) 0 := ⟨xim_X6_good, xse_X6_good, xin_X6, xco_X6_good, by decide +kernel⟩
set_option maxRecDepth 4000 in
theorem c_X6_good {l : Launch} {D : va_G} {t : Nat → ClassId} {b : Nat → Nat} {I : Nat → Int32} {F : Nat → Nat → Int32} {K : Cfg} {sd : Int32} {hd : Nat → Nat} {dk : Bool} {dw : Nat → Nat} {mt : Int32} (hI : INV (K, sd, hd, dk, dw, mt)) (hX : RM (K, sd, hd, dk, dw, mt) I F)  : CT l D t yX6_good cX6_good 1 (some .int) rX6_good 0 0 [.ref (b 0)] (WM b t I F) (MO b t (opGood (K, sd, hd, dk, dw, mt))) := by
  refine CT.of (by decide +kernel) (by simp [lg_sl, Value.category]) (fun X C hR => ?_)
  refine xlocals (lv' := [(0, .ref (b 0))]) rfl ?_
  obtain ⟨hK, hsd, hHd, hdk, hdr⟩ := id hX
  have hW : WFK K := hI.1
  have hrg := hI.2.1
  have fn24 := hW.n24; have fm60 := hW.m60; have fk2 := hW.k2; have fu1 := hW.u1; have fu9 := hW.u9; have fv1 := hW.v1; have fv9 := hW.v9
  refine xaload_n C 0 rfl dX6_good_0 ?_
  refine xcVE C (c_X6_isGood hK hW) yk_X6_isGood 0 rfl rfl xml_X6_64 ⟨⟨Nat.le_of_ble_eq_true rfl, Nat.le_of_ble_eq_true rfl⟩, ⟨rfl, rfl⟩, ⟨Nat.zero_le _, Nat.zero_le _⟩⟩ rfl (Nat.le_of_ble_eq_true rfl) dX6_good_1 (fun vE wE hE => ?_)
  obtain ⟨rfl, FA, rfl, hXA⟩ := hE
  have hKA : CFG K I FA := hK.of (fun _ _ => rfl) (fun q hq => hXA q (by omega))
  refine xif_eqN C 11 dX6_good_4 (by decide) (bn_lt _) (fun h4 => ?_) (fun h4 => ?_)
  ·
    refine xiconst (v := nI 0) C dX6_good_11 (by decide) ?_
    exact xret C hR (rfl) dX6_good_12 (MO.mk (by rw [opGood, bn_f (bn_0 h4)]) (hX.of (fun _ _ => rfl) (fun q h1 h2 h3 => hXA q h3)))
  ·
    refine xiconst (v := nI 1) C dX6_good_7 (by decide) ?_
    refine xgoto C 12 dX6_good_8 (by decide) ?_
    exact xret C hR (rfl) dX6_good_12 (MO.mk (by rw [opGood, bn_t (bn_1 h4)]) (hX.of (fun _ _ => rfl) (fun q h1 h2 h3 => hXA q h3)))
theorem dX6_highest_0 : decode cX6_highest 0 = .ok (.aload_n 0, 1) := by decide +kernel
theorem dX6_highest_1 : decode cX6_highest 1 = .ok (.iload_n 1, 1) := by decide +kernel
theorem dX6_highest_2 : decode cX6_highest 2 = .ok (.invokevirtual 75, 3) := by decide +kernel
theorem dX6_highest_5 : decode cX6_highest 5 = .ok (.ifCond .ne 5, 3) := by decide +kernel
theorem dX6_highest_8 : decode cX6_highest 8 = .ok (.iconst (-1), 1) := by decide +kernel
theorem dX6_highest_9 : decode cX6_highest 9 = .ok (.ireturn, 1) := by decide +kernel
theorem dX6_highest_10 : decode cX6_highest 10 = .ok (.aload_n 0, 1) := by decide +kernel
theorem dX6_highest_11 : decode cX6_highest 11 = .ok (.invokevirtual 64, 3) := by decide +kernel
theorem dX6_highest_14 : decode cX6_highest 14 = .ok (.ifCond .ne 6, 3) := by decide +kernel
theorem dX6_highest_17 : decode cX6_highest 17 = .ok (.bipush (-5), 2) := by decide +kernel
theorem dX6_highest_19 : decode cX6_highest 19 = .ok (.ireturn, 1) := by decide +kernel
theorem dX6_highest_20 : decode cX6_highest 20 = .ok (.aload_n 0, 1) := by decide +kernel
theorem dX6_highest_21 : decode cX6_highest 21 = .ok (.aload_n 0, 1) := by decide +kernel
theorem dX6_highest_22 : decode cX6_highest 22 = .ok (.getfield 41, 3) := by decide +kernel
theorem dX6_highest_25 : decode cX6_highest 25 = .ok (.invokevirtual 93, 3) := by decide +kernel
theorem dX6_highest_28 : decode cX6_highest 28 = .ok (.aload_n 0, 1) := by decide +kernel
theorem dX6_highest_29 : decode cX6_highest 29 = .ok (.getfield 41, 3) := by decide +kernel
theorem dX6_highest_32 : decode cX6_highest 32 = .ok (.iload_n 1, 1) := by decide +kernel
theorem dX6_highest_33 : decode cX6_highest 33 = .ok (.iaload, 1) := by decide +kernel
theorem dX6_highest_34 : decode cX6_highest 34 = .ok (.ireturn, 1) := by decide +kernel
def rX6_highest : Room := { frames := 2, cells := 0, slots := 0, locals := 47 }
theorem yk_X6_highest : YK yX6_highest cX6_highest 2 (some .int) 1 := ⟨xim_X6_highest, xse_X6_highest, xin_X6, xco_X6_highest, by decide +kernel⟩
set_option maxRecDepth 4000 in
theorem c_X6_highest {l : Launch} {D : va_G} {t : Nat → ClassId} {b : Nat → Nat} {I : Nat → Int32} {F : Nat → Nat → Int32} {K : Cfg} {sd : Int32} {hd : Nat → Nat} {dk : Bool} {dw : Nat → Nat} {mt : Int32} (hI : INV (K, sd, hd, dk, dw, mt)) (hX : RM (K, sd, hd, dk, dw, mt) I F) (x : Int32) : CT l D t yX6_highest cX6_highest 2 (some .int) rX6_highest 0 0 [.ref (b 0), .int x] (WM b t I F) (MO b t (opHigh (K, sd, hd, dk, dw, mt) x)) := by
  refine CT.of (by decide +kernel) (by simp [lg_sl, Value.category]) (fun X C hR => ?_)
  refine xlocals (lv' := [(0, .ref (b 0)), (1, .int x)]) rfl ?_
  obtain ⟨hK, hsd, hHd, hdk, hdr⟩ := id hX
  have hW : WFK K := hI.1
  have hrg := hI.2.1
  have fn24 := hW.n24; have fm60 := hW.m60; have fk2 := hW.k2; have fu1 := hW.u1; have fu9 := hW.u9; have fv1 := hW.v1; have fv9 := hW.v9
  refine xaload_n C 0 rfl dX6_highest_0 ?_
  refine xiload_n C 1 rfl dX6_highest_1 ?_
  refine xcVR C (c_X6_isPlace hK hW x) yk_X6_isPlace 0 rfl rfl xml_X6_75 ⟨⟨Nat.le_of_ble_eq_true rfl, Nat.le_of_ble_eq_true rfl⟩, ⟨rfl, rfl⟩, ⟨Nat.zero_le _, Nat.zero_le _⟩⟩ rfl (Nat.le_of_ble_eq_true rfl) dX6_highest_2 ?_
  refine xif_neN C 10 dX6_highest_5 (by decide) (bn_lt _) (fun h5 => ?_) (fun h5 => ?_)
  ·
    obtain ⟨p, hp, rfl⟩ := (bn_1 h5).nat hW
    refine xaload_n C 0 rfl dX6_highest_10 ?_
    refine xcVE C (c_X6_isGood hK hW) yk_X6_isGood 0 rfl rfl xml_X6_64 ⟨⟨Nat.le_of_ble_eq_true rfl, Nat.le_of_ble_eq_true rfl⟩, ⟨rfl, rfl⟩, ⟨Nat.zero_le _, Nat.zero_le _⟩⟩ rfl (Nat.le_of_ble_eq_true rfl) dX6_highest_11 (fun vE wE hE => ?_)
    obtain ⟨rfl, FA, rfl, hXA⟩ := hE
    have hKA : CFG K I FA := hK.of (fun _ _ => rfl) (fun q hq => hXA q (by omega))
    refine xif_neN C 20 dX6_highest_14 (by decide) (bn_lt _) (fun h14 => ?_) (fun h14 => ?_)
    ·
      refine xaload_n C 0 rfl dX6_highest_20 ?_
      refine xaload_n C 0 rfl dX6_highest_21 ?_
      refine gX6_41 C dX6_highest_22 ?_
      refine xcVV C (c_X6_layHigh hKA hW 8 (by decide) (by decide)) yk_X6_layHigh 0 rfl rfl xml_X6_93 ⟨⟨Nat.le_of_ble_eq_true rfl, Nat.le_of_ble_eq_true rfl⟩, ⟨rfl, rfl⟩, ⟨Nat.zero_le _, Nat.zero_le _⟩⟩ rfl (Nat.le_of_ble_eq_true rfl) dX6_highest_25 (fun wE hE => ?_)
      obtain ⟨FB, rfl, hXB, hRB, _⟩ := hE
      refine xaload_n C 0 rfl dX6_highest_28 ?_
      refine gX6_41 C dX6_highest_29 ?_
      refine xiload_n C 1 rfl dX6_highest_32 ?_
      refine ma_st C hW 8 (by decide) (by decide) hRB p (by omega) dX6_highest_33 ?_
      have fb33 := (hRB p (by omega)).2
      exact xret C hR (rfl) dX6_highest_34 (MO.mk (by rw [opHigh, ci_f (fun q => q (hasP_nat hW hp)), ci_f (fun q => q (bn_1 h14)), show cl (nI p) = p from nI_clamp (by omega)]) (hX.of (fun _ _ => rfl) (fun q h1 h2 h3 => (hXB q (by omega)).trans (hXA q h3))))
    ·
      refine xbipush (v := -5) C dX6_highest_17 (by decide) ?_
      exact xret C hR (rfl) dX6_highest_19 (MO.mk (by rw [opHigh, ci_f (fun q => q (hasP_nat hW hp)), ci_t (bn_0 h14)]) (hX.of (fun _ _ => rfl) (fun q h1 h2 h3 => hXA q h3)))
  ·
    have h5 := bn_0 h5
    refine xiconst (v := -1) C dX6_highest_8 (by decide) ?_
    exact xret C hR (rfl) dX6_highest_9 (MO.mk (by rw [opHigh, ci_t h5]) hX)
theorem dX6_lowest_0 : decode cX6_lowest 0 = .ok (.aload_n 0, 1) := by decide +kernel
theorem dX6_lowest_1 : decode cX6_lowest 1 = .ok (.iload_n 1, 1) := by decide +kernel
theorem dX6_lowest_2 : decode cX6_lowest 2 = .ok (.invokevirtual 75, 3) := by decide +kernel
theorem dX6_lowest_5 : decode cX6_lowest 5 = .ok (.ifCond .ne 5, 3) := by decide +kernel
theorem dX6_lowest_8 : decode cX6_lowest 8 = .ok (.iconst (-1), 1) := by decide +kernel
theorem dX6_lowest_9 : decode cX6_lowest 9 = .ok (.ireturn, 1) := by decide +kernel
theorem dX6_lowest_10 : decode cX6_lowest 10 = .ok (.aload_n 0, 1) := by decide +kernel
theorem dX6_lowest_11 : decode cX6_lowest 11 = .ok (.invokevirtual 64, 3) := by decide +kernel
theorem dX6_lowest_14 : decode cX6_lowest 14 = .ok (.ifCond .ne 6, 3) := by decide +kernel
theorem dX6_lowest_17 : decode cX6_lowest 17 = .ok (.bipush (-5), 2) := by decide +kernel
theorem dX6_lowest_19 : decode cX6_lowest 19 = .ok (.ireturn, 1) := by decide +kernel
theorem dX6_lowest_20 : decode cX6_lowest 20 = .ok (.aload_n 0, 1) := by decide +kernel
theorem dX6_lowest_21 : decode cX6_lowest 21 = .ok (.aload_n 0, 1) := by decide +kernel
theorem dX6_lowest_22 : decode cX6_lowest 22 = .ok (.getfield 44, 3) := by decide +kernel
theorem dX6_lowest_25 : decode cX6_lowest 25 = .ok (.invokevirtual 68, 3) := by decide +kernel
theorem dX6_lowest_28 : decode cX6_lowest 28 = .ok (.aload_n 0, 1) := by decide +kernel
theorem dX6_lowest_29 : decode cX6_lowest 29 = .ok (.getfield 44, 3) := by decide +kernel
theorem dX6_lowest_32 : decode cX6_lowest 32 = .ok (.iload_n 1, 1) := by decide +kernel
theorem dX6_lowest_33 : decode cX6_lowest 33 = .ok (.iaload, 1) := by decide +kernel
theorem dX6_lowest_34 : decode cX6_lowest 34 = .ok (.ireturn, 1) := by decide +kernel
def rX6_lowest : Room := { frames := 2, cells := 0, slots := 0, locals := 47 }
theorem yk_X6_lowest : YK yX6_lowest cX6_lowest 2 (some .int) 1 := ⟨xim_X6_lowest, xse_X6_lowest, xin_X6, xco_X6_lowest, by decide +kernel⟩
set_option maxRecDepth 4000 in
theorem c_X6_lowest {l : Launch} {D : va_G} {t : Nat → ClassId} {b : Nat → Nat} {I : Nat → Int32} {F : Nat → Nat → Int32} {K : Cfg} {sd : Int32} {hd : Nat → Nat} {dk : Bool} {dw : Nat → Nat} {mt : Int32} (hI : INV (K, sd, hd, dk, dw, mt)) (hX : RM (K, sd, hd, dk, dw, mt) I F) (x : Int32) : CT l D t yX6_lowest cX6_lowest 2 (some .int) rX6_lowest 0 0 [.ref (b 0), .int x] (WM b t I F) (MO b t (opLow (K, sd, hd, dk, dw, mt) x)) := by
  refine CT.of (by decide +kernel) (by simp [lg_sl, Value.category]) (fun X C hR => ?_)
  refine xlocals (lv' := [(0, .ref (b 0)), (1, .int x)]) rfl ?_
  obtain ⟨hK, hsd, hHd, hdk, hdr⟩ := id hX
  have hW : WFK K := hI.1
  have hrg := hI.2.1
  have fn24 := hW.n24; have fm60 := hW.m60; have fk2 := hW.k2; have fu1 := hW.u1; have fu9 := hW.u9; have fv1 := hW.v1; have fv9 := hW.v9
  refine xaload_n C 0 rfl dX6_lowest_0 ?_
  refine xiload_n C 1 rfl dX6_lowest_1 ?_
  refine xcVR C (c_X6_isPlace hK hW x) yk_X6_isPlace 0 rfl rfl xml_X6_75 ⟨⟨Nat.le_of_ble_eq_true rfl, Nat.le_of_ble_eq_true rfl⟩, ⟨rfl, rfl⟩, ⟨Nat.zero_le _, Nat.zero_le _⟩⟩ rfl (Nat.le_of_ble_eq_true rfl) dX6_lowest_2 ?_
  refine xif_neN C 10 dX6_lowest_5 (by decide) (bn_lt _) (fun h5 => ?_) (fun h5 => ?_)
  ·
    obtain ⟨p, hp, rfl⟩ := (bn_1 h5).nat hW
    refine xaload_n C 0 rfl dX6_lowest_10 ?_
    refine xcVE C (c_X6_isGood hK hW) yk_X6_isGood 0 rfl rfl xml_X6_64 ⟨⟨Nat.le_of_ble_eq_true rfl, Nat.le_of_ble_eq_true rfl⟩, ⟨rfl, rfl⟩, ⟨Nat.zero_le _, Nat.zero_le _⟩⟩ rfl (Nat.le_of_ble_eq_true rfl) dX6_lowest_11 (fun vE wE hE => ?_)
    obtain ⟨rfl, FA, rfl, hXA⟩ := hE
    have hKA : CFG K I FA := hK.of (fun _ _ => rfl) (fun q hq => hXA q (by omega))
    refine xif_neN C 20 dX6_lowest_14 (by decide) (bn_lt _) (fun h14 => ?_) (fun h14 => ?_)
    ·
      refine xaload_n C 0 rfl dX6_lowest_20 ?_
      refine xaload_n C 0 rfl dX6_lowest_21 ?_
      refine gX6_44 C dX6_lowest_22 ?_
      refine xcVV C (c_X6_layLow hKA hW 9 (by decide) (by decide)) yk_X6_layLow 0 rfl rfl xml_X6_68 ⟨⟨Nat.le_of_ble_eq_true rfl, Nat.le_of_ble_eq_true rfl⟩, ⟨rfl, rfl⟩, ⟨Nat.zero_le _, Nat.zero_le _⟩⟩ rfl (Nat.le_of_ble_eq_true rfl) dX6_lowest_25 (fun wE hE => ?_)
      obtain ⟨FB, rfl, hXB, hRB, _⟩ := hE
      refine xaload_n C 0 rfl dX6_lowest_28 ?_
      refine gX6_44 C dX6_lowest_29 ?_
      refine xiload_n C 1 rfl dX6_lowest_32 ?_
      refine ma_st C hW 9 (by decide) (by decide) hRB p (by omega) dX6_lowest_33 ?_
      have fb33 := (hRB p (by omega)).2
      exact xret C hR (rfl) dX6_lowest_34 (MO.mk (by rw [opLow, ci_f (fun q => q (hasP_nat hW hp)), ci_f (fun q => q (bn_1 h14)), show cl (nI p) = p from nI_clamp (by omega)]) (hX.of (fun _ _ => rfl) (fun q h1 h2 h3 => (hXB q (by omega)).trans (hXA q h3))))
    ·
      refine xbipush (v := -5) C dX6_lowest_17 (by decide) ?_
      exact xret C hR (rfl) dX6_lowest_19 (MO.mk (by rw [opLow, ci_f (fun q => q (hasP_nat hW hp)), ci_t (bn_0 h14)]) (hX.of (fun _ _ => rfl) (fun q h1 h2 h3 => hXA q h3)))
  ·
    have h5 := bn_0 h5
    refine xiconst (v := -1) C dX6_lowest_8 (by decide) ?_
    exact xret C hR (rfl) dX6_lowest_9 (MO.mk (by rw [opLow, ci_t h5]) hX)
theorem dX6_isAllowed_0 : decode cX6_isAllowed 0 = .ok (.iconst 1, 1) := by decide +kernel
theorem dX6_isAllowed_1 : decode cX6_isAllowed 1 = .ok (.istore_n 2, 1) := by decide +kernel
theorem dX6_isAllowed_2 : decode cX6_isAllowed 2 = .ok (.iconst 0, 1) := by decide +kernel
theorem dX6_isAllowed_3 : decode cX6_isAllowed 3 = .ok (.istore_n 3, 1) := by decide +kernel
theorem dX6_isAllowed_4 : decode cX6_isAllowed 4 = .ok (.iload_n 3, 1) := by decide +kernel
theorem dX6_isAllowed_5 : decode cX6_isAllowed 5 = .ok (.aload_n 0, 1) := by decide +kernel
theorem dX6_isAllowed_6 : decode cX6_isAllowed 6 = .ok (.getfield 53, 3) := by decide +kernel
theorem dX6_isAllowed_9 : decode cX6_isAllowed 9 = .ok (.if_icmp .ge 58, 3) := by decide +kernel
theorem dX6_isAllowed_12 : decode cX6_isAllowed 12 = .ok (.iload_n 2, 1) := by decide +kernel
theorem dX6_isAllowed_13 : decode cX6_isAllowed 13 = .ok (.ifCond .eq 46, 3) := by decide +kernel
theorem dX6_isAllowed_16 : decode cX6_isAllowed 16 = .ok (.aload_n 0, 1) := by decide +kernel
theorem dX6_isAllowed_17 : decode cX6_isAllowed 17 = .ok (.getfield 90, 3) := by decide +kernel
theorem dX6_isAllowed_20 : decode cX6_isAllowed 20 = .ok (.iconst 1, 1) := by decide +kernel
theorem dX6_isAllowed_21 : decode cX6_isAllowed 21 = .ok (.if_icmp .ne 27, 3) := by decide +kernel
theorem dX6_isAllowed_24 : decode cX6_isAllowed 24 = .ok (.aload_n 0, 1) := by decide +kernel
theorem dX6_isAllowed_25 : decode cX6_isAllowed 25 = .ok (.getfield 16, 3) := by decide +kernel
theorem dX6_isAllowed_28 : decode cX6_isAllowed 28 = .ok (.iload_n 3, 1) := by decide +kernel
theorem dX6_isAllowed_29 : decode cX6_isAllowed 29 = .ok (.iaload, 1) := by decide +kernel
theorem dX6_isAllowed_30 : decode cX6_isAllowed 30 = .ok (.ifCond .lt 25, 3) := by decide +kernel
theorem dX6_isAllowed_33 : decode cX6_isAllowed 33 = .ok (.aload_n 1, 1) := by decide +kernel
theorem dX6_isAllowed_34 : decode cX6_isAllowed 34 = .ok (.iload_n 3, 1) := by decide +kernel
theorem dX6_isAllowed_35 : decode cX6_isAllowed 35 = .ok (.iaload, 1) := by decide +kernel
theorem dX6_isAllowed_36 : decode cX6_isAllowed 36 = .ok (.aload_n 0, 1) := by decide +kernel
theorem dX6_isAllowed_37 : decode cX6_isAllowed 37 = .ok (.getfield 16, 3) := by decide +kernel
theorem dX6_isAllowed_40 : decode cX6_isAllowed 40 = .ok (.iload_n 3, 1) := by decide +kernel
theorem dX6_isAllowed_41 : decode cX6_isAllowed 41 = .ok (.iaload, 1) := by decide +kernel
theorem dX6_isAllowed_42 : decode cX6_isAllowed 42 = .ok (.if_icmp .ne 17, 3) := by decide +kernel
theorem dX6_isAllowed_45 : decode cX6_isAllowed 45 = .ok (.goto 10, 3) := by decide +kernel
theorem dX6_isAllowed_48 : decode cX6_isAllowed 48 = .ok (.aload_n 1, 1) := by decide +kernel
theorem dX6_isAllowed_49 : decode cX6_isAllowed 49 = .ok (.iload_n 3, 1) := by decide +kernel
theorem dX6_isAllowed_50 : decode cX6_isAllowed 50 = .ok (.iaload, 1) := by decide +kernel
theorem dX6_isAllowed_51 : decode cX6_isAllowed 51 = .ok (.iconst 2, 1) := by decide +kernel
theorem dX6_isAllowed_52 : decode cX6_isAllowed 52 = .ok (.if_icmp .ge 7, 3) := by decide +kernel
theorem dX6_isAllowed_55 : decode cX6_isAllowed 55 = .ok (.iconst 1, 1) := by decide +kernel
theorem dX6_isAllowed_56 : decode cX6_isAllowed 56 = .ok (.goto 4, 3) := by decide +kernel
theorem dX6_isAllowed_59 : decode cX6_isAllowed 59 = .ok (.iconst 0, 1) := by decide +kernel
theorem dX6_isAllowed_60 : decode cX6_isAllowed 60 = .ok (.istore_n 2, 1) := by decide +kernel
theorem dX6_isAllowed_61 : decode cX6_isAllowed 61 = .ok (.iinc 3 1, 3) := by decide +kernel
theorem dX6_isAllowed_64 : decode cX6_isAllowed 64 = .ok (.goto (-60), 3) := by decide +kernel
theorem dX6_isAllowed_67 : decode cX6_isAllowed 67 = .ok (.iconst 0, 1) := by decide +kernel
theorem dX6_isAllowed_68 : decode cX6_isAllowed 68 = .ok (.istore_n 3, 1) := by decide +kernel
theorem dX6_isAllowed_69 : decode cX6_isAllowed 69 = .ok (.iload_n 3, 1) := by decide +kernel
theorem dX6_isAllowed_70 : decode cX6_isAllowed 70 = .ok (.aload_n 0, 1) := by decide +kernel
theorem dX6_isAllowed_71 : decode cX6_isAllowed 71 = .ok (.getfield 79, 3) := by decide +kernel
theorem dX6_isAllowed_74 : decode cX6_isAllowed 74 = .ok (.if_icmp .ge 79, 3) := by decide +kernel
theorem dX6_isAllowed_77 : decode cX6_isAllowed 77 = .ok (.aload_n 1, 1) := by decide +kernel
theorem dX6_isAllowed_78 : decode cX6_isAllowed 78 = .ok (.aload_n 0, 1) := by decide +kernel
theorem dX6_isAllowed_79 : decode cX6_isAllowed 79 = .ok (.getfield 25, 3) := by decide +kernel
theorem dX6_isAllowed_82 : decode cX6_isAllowed 82 = .ok (.iload_n 3, 1) := by decide +kernel
theorem dX6_isAllowed_83 : decode cX6_isAllowed 83 = .ok (.iaload, 1) := by decide +kernel
theorem dX6_isAllowed_84 : decode cX6_isAllowed 84 = .ok (.iaload, 1) := by decide +kernel
theorem dX6_isAllowed_85 : decode cX6_isAllowed 85 = .ok (.istore 4, 2) := by decide +kernel
theorem dX6_isAllowed_87 : decode cX6_isAllowed 87 = .ok (.aload_n 1, 1) := by decide +kernel
theorem dX6_isAllowed_88 : decode cX6_isAllowed 88 = .ok (.aload_n 0, 1) := by decide +kernel
theorem dX6_isAllowed_89 : decode cX6_isAllowed 89 = .ok (.getfield 28, 3) := by decide +kernel
theorem dX6_isAllowed_92 : decode cX6_isAllowed 92 = .ok (.iload_n 3, 1) := by decide +kernel
theorem dX6_isAllowed_93 : decode cX6_isAllowed 93 = .ok (.iaload, 1) := by decide +kernel
theorem dX6_isAllowed_94 : decode cX6_isAllowed 94 = .ok (.iaload, 1) := by decide +kernel
theorem dX6_isAllowed_95 : decode cX6_isAllowed 95 = .ok (.istore 5, 2) := by decide +kernel
theorem dX6_isAllowed_97 : decode cX6_isAllowed 97 = .ok (.iload_n 2, 1) := by decide +kernel
theorem dX6_isAllowed_98 : decode cX6_isAllowed 98 = .ok (.ifCond .eq 47, 3) := by decide +kernel
theorem dX6_isAllowed_101 : decode cX6_isAllowed 101 = .ok (.aload_n 0, 1) := by decide +kernel
theorem dX6_isAllowed_102 : decode cX6_isAllowed 102 = .ok (.getfield 90, 3) := by decide +kernel
theorem dX6_isAllowed_105 : decode cX6_isAllowed 105 = .ok (.ifCond .eq 36, 3) := by decide +kernel
theorem dX6_isAllowed_108 : decode cX6_isAllowed 108 = .ok (.aload_n 0, 1) := by decide +kernel
theorem dX6_isAllowed_109 : decode cX6_isAllowed 109 = .ok (.getfield 90, 3) := by decide +kernel
theorem dX6_isAllowed_112 : decode cX6_isAllowed 112 = .ok (.iconst 1, 1) := by decide +kernel
theorem dX6_isAllowed_113 : decode cX6_isAllowed 113 = .ok (.if_icmp .ne 19, 3) := by decide +kernel
theorem dX6_isAllowed_116 : decode cX6_isAllowed 116 = .ok (.iload 4, 2) := by decide +kernel
theorem dX6_isAllowed_118 : decode cX6_isAllowed 118 = .ok (.iload 5, 2) := by decide +kernel
theorem dX6_isAllowed_120 : decode cX6_isAllowed 120 = .ok (.isub, 1) := by decide +kernel
theorem dX6_isAllowed_121 : decode cX6_isAllowed 121 = .ok (.iconst (-1), 1) := by decide +kernel
theorem dX6_isAllowed_122 : decode cX6_isAllowed 122 = .ok (.iconst 1, 1) := by decide +kernel
theorem dX6_isAllowed_123 : decode cX6_isAllowed 123 = .ok (.invokestatic 56, 3) := by decide +kernel
theorem dX6_isAllowed_126 : decode cX6_isAllowed 126 = .ok (.ifCond .eq 19, 3) := by decide +kernel
theorem dX6_isAllowed_129 : decode cX6_isAllowed 129 = .ok (.goto 12, 3) := by decide +kernel
theorem dX6_isAllowed_132 : decode cX6_isAllowed 132 = .ok (.iload 4, 2) := by decide +kernel
theorem dX6_isAllowed_134 : decode cX6_isAllowed 134 = .ok (.iload 5, 2) := by decide +kernel
theorem dX6_isAllowed_136 : decode cX6_isAllowed 136 = .ok (.iadd, 1) := by decide +kernel
theorem dX6_isAllowed_137 : decode cX6_isAllowed 137 = .ok (.iconst 2, 1) := by decide +kernel
theorem dX6_isAllowed_138 : decode cX6_isAllowed 138 = .ok (.if_icmp .ge 7, 3) := by decide +kernel
theorem dX6_isAllowed_141 : decode cX6_isAllowed 141 = .ok (.iconst 1, 1) := by decide +kernel
theorem dX6_isAllowed_142 : decode cX6_isAllowed 142 = .ok (.goto 4, 3) := by decide +kernel
theorem dX6_isAllowed_145 : decode cX6_isAllowed 145 = .ok (.iconst 0, 1) := by decide +kernel
theorem dX6_isAllowed_146 : decode cX6_isAllowed 146 = .ok (.istore_n 2, 1) := by decide +kernel
theorem dX6_isAllowed_147 : decode cX6_isAllowed 147 = .ok (.iinc 3 1, 3) := by decide +kernel
theorem dX6_isAllowed_150 : decode cX6_isAllowed 150 = .ok (.goto (-81), 3) := by decide +kernel
theorem dX6_isAllowed_153 : decode cX6_isAllowed 153 = .ok (.iload_n 2, 1) := by decide +kernel
theorem dX6_isAllowed_154 : decode cX6_isAllowed 154 = .ok (.ireturn, 1) := by decide +kernel
def rX6_isAllowed : Room := { frames := 1, cells := 0, slots := 0, locals := 22 }
theorem yk_X6_isAllowed : YK yX6_isAllowed cX6_isAllowed 6 (some .boolean) 1 := ⟨xim_X6_isAllowed, xse_X6_isAllowed, xin_X6, xco_X6_isAllowed, by decide +kernel⟩
set_option maxRecDepth 4000 in
theorem c_X6_isAllowed {l : Launch} {D : va_G} {t : Nat → ClassId} {b : Nat → Nat} {I : Nat → Int32} {F : Nat → Nat → Int32} {K : Cfg} (hK : CFG K I F) (hW : WFK K) (j : Nat) (h8 : 8 ≤ j) (hj : j < 13) {f : Nat → Nat} (hS : RA (kn K) (F j) f) (hr : ∀ p, p < kn K → f p ≤ ktop K p) : CT l D t yX6_isAllowed cX6_isAllowed 6 (some .boolean) rX6_isAllowed 0 0 [.ref (b 0), .ref (b j)] (WM b t I F) (RP (.int (nI (bn (alP K f)))) (WM b t I F)) := by
  refine CT.of (by decide +kernel) (by simp [lg_sl, Value.category]) (fun X C hR => ?_)
  refine xlocals (lv' := [(0, .ref (b 0)), (1, .ref (b j))]) rfl ?_
  have fn24 := hW.n24; have fm60 := hW.m60; have fk2 := hW.k2; have fu1 := hW.u1; have fu9 := hW.u9; have fv1 := hW.v1; have fv9 := hW.v9
  refine xiconst (v := nI 1) C dX6_isAllowed_0 (by decide) ?_
  refine xistore_n (lv' := [(2, .int (nI 1)), (0, .ref (b 0)), (1, .ref (b j))]) C dX6_isAllowed_1 (by decide) rfl ?_
  refine xlocals (lv' := [(2, .int (nI (bn (∀ x, x < 0 → pwN K x (f x) ≠ 0)))), (0, .ref (b 0)), (1, .ref (b j))]) (by rw [bn_t (P := ∀ x, x < 0 → pwN K x (f x) ≠ 0) (fun x h => absurd h (Nat.not_lt_zero _))]) ?_
  refine xiconst (v := nI 0) C dX6_isAllowed_2 (by decide) ?_
  refine xistore_n (lv' := [(3, .int (nI 0)), (2, .int (nI (bn (∀ x, x < 0 → pwN K x (f x) ≠ 0)))), (0, .ref (b 0)), (1, .ref (b j))]) C dX6_isAllowed_3 (by decide) rfl ?_
  have LP4 : ∀ (fu4 : Nat) (i : Nat) (hi : i ≤ kn K), kn K - i < fu4 → XW X 0 0 (WM b t I F) [(0, .ref (b 0)), (1, .ref (b j)), (2, .int (nI (bn (∀ x, x < i → pwN K x (f x) ≠ 0)))), (3, .int (nI i))] 4 [] := by
    intro fu4
    induction fu4 with
    | zero => intro i hi hm4; exact absurd hm4 (Nat.not_lt_zero _)
    | succ fu4 ih4 =>
      intro i hi hm4
      refine xiload_n C 3 rfl dX6_isAllowed_4 ?_
      refine xaload_n C 0 rfl dX6_isAllowed_5 ?_
      refine gX6_53K C hK dX6_isAllowed_6 ?_
      refine xicmp_geN C 67 dX6_isAllowed_9 (by decide) (by omega) (by omega) (fun h9 => ?_) (fun h9 => ?_)
      ·
        refine xlocals (lv' := [(0, .ref (b 0)), (1, .ref (b j)), (2, .int (nI (bn ((∀ x, x < kn K → pwN K x (f x) ≠ 0) ∧ ∀ x, x < 0 → lwN K (f (kla K x)) (f (klb K x)) ≠ 0)))), (3, .int (nI i))]) (by rw [bn_iff (show ((∀ x, x < kn K → pwN K x (f x) ≠ 0) ∧ ∀ x, x < 0 → lwN K (f (kla K x)) (f (klb K x)) ≠ 0) ↔ (∀ x, x < i → pwN K x (f x) ≠ 0) from ⟨fun q x hx => q.1 x (by omega), fun q => ⟨fun x hx => q x (by omega), fun x h => absurd h (Nat.not_lt_zero _)⟩⟩)]) ?_
        refine xiconst (v := nI 0) C dX6_isAllowed_67 (by decide) ?_
        refine xistore_n (lv' := [(3, .int (nI 0)), (0, .ref (b 0)), (1, .ref (b j)), (2, .int (nI (bn ((∀ x, x < kn K → pwN K x (f x) ≠ 0) ∧ ∀ x, x < 0 → lwN K (f (kla K x)) (f (klb K x)) ≠ 0))))]) C dX6_isAllowed_68 (by decide) rfl ?_
        have LP69 : ∀ (fu69 : Nat) (k : Nat) (hk : k ≤ km K), km K - k < fu69 → XW X 0 0 (WM b t I F) [(0, .ref (b 0)), (1, .ref (b j)), (2, .int (nI (bn ((∀ x, x < kn K → pwN K x (f x) ≠ 0) ∧ ∀ x, x < k → lwN K (f (kla K x)) (f (klb K x)) ≠ 0)))), (3, .int (nI k))] 69 [] := by
          intro fu69
          induction fu69 with
          | zero => intro k hk hm69; exact absurd hm69 (Nat.not_lt_zero _)
          | succ fu69 ih69 =>
            intro k hk hm69
            refine xiload_n C 3 rfl dX6_isAllowed_69 ?_
            refine xaload_n C 0 rfl dX6_isAllowed_70 ?_
            refine gX6_79K C hK dX6_isAllowed_71 ?_
            refine xicmp_geN C 153 dX6_isAllowed_74 (by decide) (by omega) (by omega) (fun h74 => ?_) (fun h74 => ?_)
            ·
              refine xiload_n C 2 rfl dX6_isAllowed_153 ?_
              exact xret C hR (nar_bn _) dX6_isAllowed_154 (RPn (bn_iff (by (have e : k = km K := (by omega)); subst e; exact Iff.rfl)))
            ·
              refine xaload_n C 1 rfl dX6_isAllowed_77 ?_
              refine xaload_n C 0 rfl dX6_isAllowed_78 ?_
              refine gX6_25 C dX6_isAllowed_79 ?_
              refine xiload_n C 3 rfl dX6_isAllowed_82 ?_
              refine ma_la C hK hW k (by omega) dX6_isAllowed_83 ?_
              have fb83 := (hW.la (by omega))
              refine ma_st C hW j h8 hj hS (kla K k) (by omega) dX6_isAllowed_84 ?_
              have fb84 := (hS (kla K k) (by omega)).2
              refine xistore (lv' := [(4, .int (nI (f (kla K k)))), (0, .ref (b 0)), (1, .ref (b j)), (2, .int (nI (bn ((∀ x, x < kn K → pwN K x (f x) ≠ 0) ∧ ∀ x, x < k → lwN K (f (kla K x)) (f (klb K x)) ≠ 0)))), (3, .int (nI k))]) C dX6_isAllowed_85 (by decide) rfl ?_
              refine xaload_n C 2 rfl dX6_isAllowed_87 ?_
              refine xaload_n C 1 rfl dX6_isAllowed_88 ?_
              refine gX6_28 C dX6_isAllowed_89 ?_
              refine xiload_n C 4 rfl dX6_isAllowed_92 ?_
              refine ma_lb C hK hW k (by omega) dX6_isAllowed_93 ?_
              have fb93 := (hW.lb (by omega))
              refine ma_st C hW j h8 hj hS (klb K k) (by omega) dX6_isAllowed_94 ?_
              have fb94 := (hS (klb K k) (by omega)).2
              refine xistore (lv' := [(5, .int (nI (f (klb K k)))), (4, .int (nI (f (kla K k)))), (0, .ref (b 0)), (1, .ref (b j)), (2, .int (nI (bn ((∀ x, x < kn K → pwN K x (f x) ≠ 0) ∧ ∀ x, x < k → lwN K (f (kla K x)) (f (klb K x)) ≠ 0)))), (3, .int (nI k))]) C dX6_isAllowed_95 (by decide) rfl ?_
              refine xiload_n C 4 rfl dX6_isAllowed_97 ?_
              refine xif_eqN C 145 dX6_isAllowed_98 (by decide) (bn_lt _) (fun h98 => ?_) (fun h98 => ?_)
              ·
                refine xiconst (v := nI 0) C dX6_isAllowed_145 (by decide) ?_
                refine xtopi (y := nI (bn ((∀ x, x < kn K → pwN K x (f x) ≠ 0) ∧ ∀ x, x < k + 1 → lwN K (f (kla K x)) (f (klb K x)) ≠ 0))) (by rw [bn_f (P := (∀ x, x < kn K → pwN K x (f x) ≠ 0) ∧ ∀ x, x < k + 1 → lwN K (f (kla K x)) (f (klb K x)) ≠ 0) (fun q => bn_0 h98 ⟨q.1, fun x hx => q.2 x (by omega)⟩)]) ?_
                refine xistore_n (lv' := [(2, .int (nI (bn ((∀ x, x < kn K → pwN K x (f x) ≠ 0) ∧ ∀ x, x < k + 1 → lwN K (f (kla K x)) (f (klb K x)) ≠ 0)))), (5, .int (nI (f (klb K k)))), (4, .int (nI (f (kla K k)))), (0, .ref (b 0)), (1, .ref (b j)), (3, .int (nI k))]) C dX6_isAllowed_146 (by decide) rfl ?_
                refine xiincN (lv' := [(3, .int (nI (k + 1))), (2, .int (nI (bn ((∀ x, x < kn K → pwN K x (f x) ≠ 0) ∧ ∀ x, x < k + 1 → lwN K (f (kla K x)) (f (klb K x)) ≠ 0)))), (5, .int (nI (f (klb K k)))), (4, .int (nI (f (kla K k)))), (0, .ref (b 0)), (1, .ref (b j))]) C 5 rfl dX6_isAllowed_147 (by decide) rfl ?_
                refine xgoto C 69 dX6_isAllowed_150 (by decide) ?_
                refine xsub [4, 5, 1, 0] rfl ?_
                exact ih69 (k + 1) (by omega) (by omega)
              ·
                refine xaload_n C 2 rfl dX6_isAllowed_101 ?_
                refine gX6_90K C hK dX6_isAllowed_102 ?_
                refine xif_eqN C 141 dX6_isAllowed_105 (by decide) (by omega) (fun h105 => ?_) (fun h105 => ?_)
                ·
                  refine xiconst (v := nI 1) C dX6_isAllowed_141 (by decide) ?_
                  refine xgoto C 146 dX6_isAllowed_142 (by decide) ?_
                  refine xtopi (y := nI (bn ((∀ x, x < kn K → pwN K x (f x) ≠ 0) ∧ ∀ x, x < k + 1 → lwN K (f (kla K x)) (f (klb K x)) ≠ 0))) (by rw [bn_t (P := (∀ x, x < kn K → pwN K x (f x) ≠ 0) ∧ ∀ x, x < k + 1 → lwN K (f (kla K x)) (f (klb K x)) ≠ 0) ⟨(bn_1 h98).1, lt_s (bn_1 h98).2 (lw_0 hW h105)⟩]) ?_
                  refine xistore_n (lv' := [(2, .int (nI (bn ((∀ x, x < kn K → pwN K x (f x) ≠ 0) ∧ ∀ x, x < k + 1 → lwN K (f (kla K x)) (f (klb K x)) ≠ 0)))), (5, .int (nI (f (klb K k)))), (4, .int (nI (f (kla K k)))), (0, .ref (b 0)), (1, .ref (b j)), (3, .int (nI k))]) C dX6_isAllowed_146 (by decide) rfl ?_
                  refine xiincN (lv' := [(3, .int (nI (k + 1))), (2, .int (nI (bn ((∀ x, x < kn K → pwN K x (f x) ≠ 0) ∧ ∀ x, x < k + 1 → lwN K (f (kla K x)) (f (klb K x)) ≠ 0)))), (5, .int (nI (f (klb K k)))), (4, .int (nI (f (kla K k)))), (0, .ref (b 0)), (1, .ref (b j))]) C 5 rfl dX6_isAllowed_147 (by decide) rfl ?_
                  refine xgoto C 69 dX6_isAllowed_150 (by decide) ?_
                  refine xsub [4, 5, 1, 0] rfl ?_
                  exact ih69 (k + 1) (by omega) (by omega)
                ·
                  refine xaload_n C 2 rfl dX6_isAllowed_108 ?_
                  refine gX6_90K C hK dX6_isAllowed_109 ?_
                  refine xiconst (v := nI 1) C dX6_isAllowed_112 (by decide) ?_
                  refine xicmp_neN C 132 dX6_isAllowed_113 (by decide) (by omega) (by omega) (fun h113 => ?_) (fun h113 => ?_)
                  ·
                    refine xiload C 1 rfl dX6_isAllowed_132 ?_
                    refine xiload C 0 rfl dX6_isAllowed_134 ?_
                    refine xiaddN C dX6_isAllowed_136 ?_
                    refine xiconst (v := nI 2) C dX6_isAllowed_137 (by decide) ?_
                    refine xicmp_geN C 145 dX6_isAllowed_138 (by decide) (by omega) (by omega) (fun h138 => ?_) (fun h138 => ?_)
                    ·
                      refine xiconst (v := nI 0) C dX6_isAllowed_145 (by decide) ?_
                      refine xtopi (y := nI (bn ((∀ x, x < kn K → pwN K x (f x) ≠ 0) ∧ ∀ x, x < k + 1 → lwN K (f (kla K x)) (f (klb K x)) ≠ 0))) (by rw [bn_f (P := (∀ x, x < kn K → pwN K x (f x) ≠ 0) ∧ ∀ x, x < k + 1 → lwN K (f (kla K x)) (f (klb K x)) ≠ 0) (fun q => (fun z => (lw_2 (show kk K = 2 by omega)).mp z ⟨lw_2a (bn_1 h98).1 hW (by omega) (by omega) (by omega) h138, lw_2b (bn_1 h98).1 hW (by omega) (by omega) (by omega) h138⟩) (q.2 k (by omega)))]) ?_
                      refine xistore_n (lv' := [(2, .int (nI (bn ((∀ x, x < kn K → pwN K x (f x) ≠ 0) ∧ ∀ x, x < k + 1 → lwN K (f (kla K x)) (f (klb K x)) ≠ 0)))), (5, .int (nI (f (klb K k)))), (4, .int (nI (f (kla K k)))), (0, .ref (b 0)), (1, .ref (b j)), (3, .int (nI k))]) C dX6_isAllowed_146 (by decide) rfl ?_
                      refine xiincN (lv' := [(3, .int (nI (k + 1))), (2, .int (nI (bn ((∀ x, x < kn K → pwN K x (f x) ≠ 0) ∧ ∀ x, x < k + 1 → lwN K (f (kla K x)) (f (klb K x)) ≠ 0)))), (5, .int (nI (f (klb K k)))), (4, .int (nI (f (kla K k)))), (0, .ref (b 0)), (1, .ref (b j))]) C 5 rfl dX6_isAllowed_147 (by decide) rfl ?_
                      refine xgoto C 69 dX6_isAllowed_150 (by decide) ?_
                      refine xsub [4, 5, 1, 0] rfl ?_
                      exact ih69 (k + 1) (by omega) (by omega)
                    ·
                      refine xiconst (v := nI 1) C dX6_isAllowed_141 (by decide) ?_
                      refine xgoto C 146 dX6_isAllowed_142 (by decide) ?_
                      refine xtopi (y := nI (bn ((∀ x, x < kn K → pwN K x (f x) ≠ 0) ∧ ∀ x, x < k + 1 → lwN K (f (kla K x)) (f (klb K x)) ≠ 0))) (by rw [bn_t (P := (∀ x, x < kn K → pwN K x (f x) ≠ 0) ∧ ∀ x, x < k + 1 → lwN K (f (kla K x)) (f (klb K x)) ≠ 0) ⟨(bn_1 h98).1, lt_s (bn_1 h98).2 ((lw_2 (by omega)).mpr (by omega))⟩]) ?_
                      refine xistore_n (lv' := [(2, .int (nI (bn ((∀ x, x < kn K → pwN K x (f x) ≠ 0) ∧ ∀ x, x < k + 1 → lwN K (f (kla K x)) (f (klb K x)) ≠ 0)))), (5, .int (nI (f (klb K k)))), (4, .int (nI (f (kla K k)))), (0, .ref (b 0)), (1, .ref (b j)), (3, .int (nI k))]) C dX6_isAllowed_146 (by decide) rfl ?_
                      refine xiincN (lv' := [(3, .int (nI (k + 1))), (2, .int (nI (bn ((∀ x, x < kn K → pwN K x (f x) ≠ 0) ∧ ∀ x, x < k + 1 → lwN K (f (kla K x)) (f (klb K x)) ≠ 0)))), (5, .int (nI (f (klb K k)))), (4, .int (nI (f (kla K k)))), (0, .ref (b 0)), (1, .ref (b j))]) C 5 rfl dX6_isAllowed_147 (by decide) rfl ?_
                      refine xgoto C 69 dX6_isAllowed_150 (by decide) ?_
                      refine xsub [4, 5, 1, 0] rfl ?_
                      exact ih69 (k + 1) (by omega) (by omega)
                  ·
                    refine xiload C 1 rfl dX6_isAllowed_116 ?_
                    refine xiload C 0 rfl dX6_isAllowed_118 ?_
                    refine xisub C dX6_isAllowed_120 ?_
                    refine xiconst (v := -1) C dX6_isAllowed_121 (by decide) ?_
                    refine xiconst (v := 1) C dX6_isAllowed_122 (by decide) ?_
                    refine xcSR C (c_X6_in ((nI (f (kla K k))) - (nI (f (klb K k)))) (-1) 1) sk_X6_in xml_X6_56 ⟨⟨Nat.le_of_ble_eq_true rfl, Nat.le_of_ble_eq_true rfl⟩, ⟨rfl, rfl⟩, ⟨Nat.zero_le _, Nat.zero_le _⟩⟩ rfl (Nat.le_of_ble_eq_true rfl) dX6_isAllowed_123 ?_
                    refine xif_eqN C 145 dX6_isAllowed_126 (by decide) (bn_lt _) (fun h126 => ?_) (fun h126 => ?_)
                    ·
                      refine xiconst (v := nI 0) C dX6_isAllowed_145 (by decide) ?_
                      refine xtopi (y := nI (bn ((∀ x, x < kn K → pwN K x (f x) ≠ 0) ∧ ∀ x, x < k + 1 → lwN K (f (kla K x)) (f (klb K x)) ≠ 0))) (by rw [bn_f (P := (∀ x, x < kn K → pwN K x (f x) ≠ 0) ∧ ∀ x, x < k + 1 → lwN K (f (kla K x)) (f (klb K x)) ≠ 0) (fun q => (fun z => bn_0 h126 (inm1r (by omega) (by omega) ((lw_1 h113).mp z))) (q.2 k (by omega)))]) ?_
                      refine xistore_n (lv' := [(2, .int (nI (bn ((∀ x, x < kn K → pwN K x (f x) ≠ 0) ∧ ∀ x, x < k + 1 → lwN K (f (kla K x)) (f (klb K x)) ≠ 0)))), (5, .int (nI (f (klb K k)))), (4, .int (nI (f (kla K k)))), (0, .ref (b 0)), (1, .ref (b j)), (3, .int (nI k))]) C dX6_isAllowed_146 (by decide) rfl ?_
                      refine xiincN (lv' := [(3, .int (nI (k + 1))), (2, .int (nI (bn ((∀ x, x < kn K → pwN K x (f x) ≠ 0) ∧ ∀ x, x < k + 1 → lwN K (f (kla K x)) (f (klb K x)) ≠ 0)))), (5, .int (nI (f (klb K k)))), (4, .int (nI (f (kla K k)))), (0, .ref (b 0)), (1, .ref (b j))]) C 5 rfl dX6_isAllowed_147 (by decide) rfl ?_
                      refine xgoto C 69 dX6_isAllowed_150 (by decide) ?_
                      refine xsub [4, 5, 1, 0] rfl ?_
                      exact ih69 (k + 1) (by omega) (by omega)
                    ·
                      refine xgoto C 141 dX6_isAllowed_129 (by decide) ?_
                      refine xiconst (v := nI 1) C dX6_isAllowed_141 (by decide) ?_
                      refine xgoto C 146 dX6_isAllowed_142 (by decide) ?_
                      refine xtopi (y := nI (bn ((∀ x, x < kn K → pwN K x (f x) ≠ 0) ∧ ∀ x, x < k + 1 → lwN K (f (kla K x)) (f (klb K x)) ≠ 0))) (by rw [bn_t (P := (∀ x, x < kn K → pwN K x (f x) ≠ 0) ∧ ∀ x, x < k + 1 → lwN K (f (kla K x)) (f (klb K x)) ≠ 0) ⟨(bn_1 h98).1, lt_s (bn_1 h98).2 ((lw_1 h113).mpr (inm1 (by omega) (by omega) (bn_1 h126)))⟩]) ?_
                      refine xistore_n (lv' := [(2, .int (nI (bn ((∀ x, x < kn K → pwN K x (f x) ≠ 0) ∧ ∀ x, x < k + 1 → lwN K (f (kla K x)) (f (klb K x)) ≠ 0)))), (5, .int (nI (f (klb K k)))), (4, .int (nI (f (kla K k)))), (0, .ref (b 0)), (1, .ref (b j)), (3, .int (nI k))]) C dX6_isAllowed_146 (by decide) rfl ?_
                      refine xiincN (lv' := [(3, .int (nI (k + 1))), (2, .int (nI (bn ((∀ x, x < kn K → pwN K x (f x) ≠ 0) ∧ ∀ x, x < k + 1 → lwN K (f (kla K x)) (f (klb K x)) ≠ 0)))), (5, .int (nI (f (klb K k)))), (4, .int (nI (f (kla K k)))), (0, .ref (b 0)), (1, .ref (b j))]) C 5 rfl dX6_isAllowed_147 (by decide) rfl ?_
                      refine xgoto C 69 dX6_isAllowed_150 (by decide) ?_
                      refine xsub [4, 5, 1, 0] rfl ?_
                      exact ih69 (k + 1) (by omega) (by omega)
        refine xsub [1, 2, 3, 0] rfl ?_
        exact LP69 _ 0 (Nat.zero_le _) (Nat.lt_succ_self _)
      ·
        refine xiload_n C 2 rfl dX6_isAllowed_12 ?_
        refine xif_eqN C 59 dX6_isAllowed_13 (by decide) (bn_lt _) (fun h13 => ?_) (fun h13 => ?_)
        ·
          refine xiconst (v := nI 0) C dX6_isAllowed_59 (by decide) ?_
          refine xtopi (y := nI (bn (∀ x, x < i + 1 → pwN K x (f x) ≠ 0))) (by rw [bn_f (P := ∀ x, x < i + 1 → pwN K x (f x) ≠ 0) (fun q => bn_0 h13 (fun x hx => q x (by omega)))]) ?_
          refine xistore_n (lv' := [(2, .int (nI (bn (∀ x, x < i + 1 → pwN K x (f x) ≠ 0)))), (0, .ref (b 0)), (1, .ref (b j)), (3, .int (nI i))]) C dX6_isAllowed_60 (by decide) rfl ?_
          refine xiincN (lv' := [(3, .int (nI (i + 1))), (2, .int (nI (bn (∀ x, x < i + 1 → pwN K x (f x) ≠ 0)))), (0, .ref (b 0)), (1, .ref (b j))]) C 3 rfl dX6_isAllowed_61 (by decide) rfl ?_
          refine xgoto C 4 dX6_isAllowed_64 (by decide) ?_
          refine xsub [2, 3, 1, 0] rfl ?_
          exact ih4 (i + 1) (by omega) (by omega)
        ·
          refine xaload_n C 0 rfl dX6_isAllowed_16 ?_
          refine gX6_90K C hK dX6_isAllowed_17 ?_
          refine xiconst (v := nI 1) C dX6_isAllowed_20 (by decide) ?_
          refine xicmp_neN C 48 dX6_isAllowed_21 (by decide) (by omega) (by omega) (fun h21 => ?_) (fun h21 => ?_)
          ·
            refine xaload_n C 1 rfl dX6_isAllowed_48 ?_
            refine xiload_n C 3 rfl dX6_isAllowed_49 ?_
            refine ma_st C hW j h8 hj hS i (by omega) dX6_isAllowed_50 ?_
            have fb50 := (hS i (by omega)).2
            refine xiconst (v := nI 2) C dX6_isAllowed_51 (by decide) ?_
            refine xicmp_geN C 59 dX6_isAllowed_52 (by decide) (by omega) (by omega) (fun h52 => ?_) (fun h52 => ?_)
            ·
              refine xiconst (v := nI 0) C dX6_isAllowed_59 (by decide) ?_
              refine xtopi (y := nI (bn (∀ x, x < i + 1 → pwN K x (f x) ≠ 0))) (by rw [bn_f (P := ∀ x, x < i + 1 → pwN K x (f x) ≠ 0) (fun q => absurd ((pw_02 hW h21).mp (q i (by omega))) (by omega))]) ?_
              refine xistore_n (lv' := [(2, .int (nI (bn (∀ x, x < i + 1 → pwN K x (f x) ≠ 0)))), (0, .ref (b 0)), (1, .ref (b j)), (3, .int (nI i))]) C dX6_isAllowed_60 (by decide) rfl ?_
              refine xiincN (lv' := [(3, .int (nI (i + 1))), (2, .int (nI (bn (∀ x, x < i + 1 → pwN K x (f x) ≠ 0)))), (0, .ref (b 0)), (1, .ref (b j))]) C 3 rfl dX6_isAllowed_61 (by decide) rfl ?_
              refine xgoto C 4 dX6_isAllowed_64 (by decide) ?_
              refine xsub [2, 3, 1, 0] rfl ?_
              exact ih4 (i + 1) (by omega) (by omega)
            ·
              refine xiconst (v := nI 1) C dX6_isAllowed_55 (by decide) ?_
              refine xgoto C 60 dX6_isAllowed_56 (by decide) ?_
              refine xtopi (y := nI (bn (∀ x, x < i + 1 → pwN K x (f x) ≠ 0))) (by rw [bn_t (P := ∀ x, x < i + 1 → pwN K x (f x) ≠ 0) (lt_s (bn_1 h13) ((pw_02 hW h21).mpr h52))]) ?_
              refine xistore_n (lv' := [(2, .int (nI (bn (∀ x, x < i + 1 → pwN K x (f x) ≠ 0)))), (0, .ref (b 0)), (1, .ref (b j)), (3, .int (nI i))]) C dX6_isAllowed_60 (by decide) rfl ?_
              refine xiincN (lv' := [(3, .int (nI (i + 1))), (2, .int (nI (bn (∀ x, x < i + 1 → pwN K x (f x) ≠ 0)))), (0, .ref (b 0)), (1, .ref (b j))]) C 3 rfl dX6_isAllowed_61 (by decide) rfl ?_
              refine xgoto C 4 dX6_isAllowed_64 (by decide) ?_
              refine xsub [2, 3, 1, 0] rfl ?_
              exact ih4 (i + 1) (by omega) (by omega)
          ·
            refine xaload_n C 0 rfl dX6_isAllowed_24 ?_
            refine gX6_16 C dX6_isAllowed_25 ?_
            refine xiload_n C 3 rfl dX6_isAllowed_28 ?_
            refine ma_hd C hK hW i (by omega) dX6_isAllowed_29 ?_
            have fb29 := (hW.hd6 (by omega))
            refine xif_lt C 55 dX6_isAllowed_30 (by decide) (fun h30 => ?_) (fun h30 => ?_)
            ·
              refine xiconst (v := nI 1) C dX6_isAllowed_55 (by decide) ?_
              refine xgoto C 60 dX6_isAllowed_56 (by decide) ?_
              refine xtopi (y := nI (bn (∀ x, x < i + 1 → pwN K x (f x) ≠ 0))) (by rw [bn_t (P := ∀ x, x < i + 1 → pwN K x (f x) ≠ 0) (lt_s (bn_1 h13) ((pw_1 h21 (hr i (by omega))).mpr (Or.inl (hdl (by omega) h30))))]) ?_
              refine xistore_n (lv' := [(2, .int (nI (bn (∀ x, x < i + 1 → pwN K x (f x) ≠ 0)))), (0, .ref (b 0)), (1, .ref (b j)), (3, .int (nI i))]) C dX6_isAllowed_60 (by decide) rfl ?_
              refine xiincN (lv' := [(3, .int (nI (i + 1))), (2, .int (nI (bn (∀ x, x < i + 1 → pwN K x (f x) ≠ 0)))), (0, .ref (b 0)), (1, .ref (b j))]) C 3 rfl dX6_isAllowed_61 (by decide) rfl ?_
              refine xgoto C 4 dX6_isAllowed_64 (by decide) ?_
              refine xsub [2, 3, 1, 0] rfl ?_
              exact ih4 (i + 1) (by omega) (by omega)
            ·
              refine xaload_n C 1 rfl dX6_isAllowed_33 ?_
              refine xiload_n C 3 rfl dX6_isAllowed_34 ?_
              refine ma_st C hW j h8 hj hS i (by omega) dX6_isAllowed_35 ?_
              have fb35 := (hS i (by omega)).2
              refine xaload_n C 0 rfl dX6_isAllowed_36 ?_
              refine gX6_16 C dX6_isAllowed_37 ?_
              refine xiload_n C 3 rfl dX6_isAllowed_40 ?_
              refine ma_hd C hK hW i (by omega) dX6_isAllowed_41 ?_
              have fb41 := (hW.hd6 (by omega))
              refine xicmp_ne C 59 dX6_isAllowed_42 (by decide) (fun h42 => ?_) (fun h42 => ?_)
              ·
                refine xiconst (v := nI 0) C dX6_isAllowed_59 (by decide) ?_
                refine xtopi (y := nI (bn (∀ x, x < i + 1 → pwN K x (f x) ≠ 0))) (by rw [bn_f (P := ∀ x, x < i + 1 → pwN K x (f x) ≠ 0) (fun q => absurd ((pw_1 h21 (hr i (by omega))).mp (q i (by omega))) (fun z => z.elim (hdnl (by omega) h30) (fun z => h42 (hdx2 z))))]) ?_
                refine xistore_n (lv' := [(2, .int (nI (bn (∀ x, x < i + 1 → pwN K x (f x) ≠ 0)))), (0, .ref (b 0)), (1, .ref (b j)), (3, .int (nI i))]) C dX6_isAllowed_60 (by decide) rfl ?_
                refine xiincN (lv' := [(3, .int (nI (i + 1))), (2, .int (nI (bn (∀ x, x < i + 1 → pwN K x (f x) ≠ 0)))), (0, .ref (b 0)), (1, .ref (b j))]) C 3 rfl dX6_isAllowed_61 (by decide) rfl ?_
                refine xgoto C 4 dX6_isAllowed_64 (by decide) ?_
                refine xsub [2, 3, 1, 0] rfl ?_
                exact ih4 (i + 1) (by omega) (by omega)
              ·
                refine xgoto C 55 dX6_isAllowed_45 (by decide) ?_
                refine xiconst (v := nI 1) C dX6_isAllowed_55 (by decide) ?_
                refine xgoto C 60 dX6_isAllowed_56 (by decide) ?_
                refine xtopi (y := nI (bn (∀ x, x < i + 1 → pwN K x (f x) ≠ 0))) (by rw [bn_t (P := ∀ x, x < i + 1 → pwN K x (f x) ≠ 0) (lt_s (bn_1 h13) ((pw_1 h21 (hr i (by omega))).mpr (Or.inr (hdx (by omega) (by omega) h42))))]) ?_
                refine xistore_n (lv' := [(2, .int (nI (bn (∀ x, x < i + 1 → pwN K x (f x) ≠ 0)))), (0, .ref (b 0)), (1, .ref (b j)), (3, .int (nI i))]) C dX6_isAllowed_60 (by decide) rfl ?_
                refine xiincN (lv' := [(3, .int (nI (i + 1))), (2, .int (nI (bn (∀ x, x < i + 1 → pwN K x (f x) ≠ 0)))), (0, .ref (b 0)), (1, .ref (b j))]) C 3 rfl dX6_isAllowed_61 (by decide) rfl ?_
                refine xgoto C 4 dX6_isAllowed_64 (by decide) ?_
                refine xsub [2, 3, 1, 0] rfl ?_
                exact ih4 (i + 1) (by omega) (by omega)
  refine xsub [2, 3, 1, 0] rfl ?_
  exact LP4 _ 0 (Nat.zero_le _) (Nat.lt_succ_self _)
theorem dX6_at_0 : decode cX6_at 0 = .ok (.aload_n 0, 1) := by decide +kernel
theorem dX6_at_1 : decode cX6_at 1 = .ok (.iload_n 1, 1) := by decide +kernel
theorem dX6_at_2 : decode cX6_at 2 = .ok (.invokevirtual 75, 3) := by decide +kernel
theorem dX6_at_5 : decode cX6_at 5 = .ok (.ifCond .eq 12, 3) := by decide +kernel
theorem dX6_at_8 : decode cX6_at 8 = .ok (.aload_n 0, 1) := by decide +kernel
theorem dX6_at_9 : decode cX6_at 9 = .ok (.getfield 38, 3) := by decide +kernel
theorem dX6_at_12 : decode cX6_at 12 = .ok (.iload_n 1, 1) := by decide +kernel
theorem dX6_at_13 : decode cX6_at 13 = .ok (.iaload, 1) := by decide +kernel
theorem dX6_at_14 : decode cX6_at 14 = .ok (.goto 4, 3) := by decide +kernel
theorem dX6_at_17 : decode cX6_at 17 = .ok (.iconst (-1), 1) := by decide +kernel
theorem dX6_at_18 : decode cX6_at 18 = .ok (.ireturn, 1) := by decide +kernel
def rX6_at : Room := { frames := 2, cells := 0, slots := 0, locals := 43 }
theorem yk_X6_at : YK yX6_at cX6_at 2 (some .int) 1 := ⟨xim_X6_at, xse_X6_at, xin_X6, xco_X6_at, by decide +kernel⟩
set_option maxRecDepth 4000 in
theorem c_X6_at {l : Launch} {D : va_G} {t : Nat → ClassId} {b : Nat → Nat} {I : Nat → Int32} {F : Nat → Nat → Int32} {K : Cfg} {sd : Int32} {hd : Nat → Nat} {dk : Bool} {dw : Nat → Nat} {mt : Int32} (hI : INV (K, sd, hd, dk, dw, mt)) (hX : RM (K, sd, hd, dk, dw, mt) I F) (x : Int32) : CT l D t yX6_at cX6_at 2 (some .int) rX6_at 0 0 [.ref (b 0), .int x] (WM b t I F) (MO b t (opAt (K, sd, hd, dk, dw, mt) x)) := by
  refine CT.of (by decide +kernel) (by simp [lg_sl, Value.category]) (fun X C hR => ?_)
  refine xlocals (lv' := [(0, .ref (b 0)), (1, .int x)]) rfl ?_
  obtain ⟨hK, hsd, hHd, hdk, hdr⟩ := id hX
  have hW : WFK K := hI.1
  have hrg := hI.2.1
  have fn24 := hW.n24; have fm60 := hW.m60; have fk2 := hW.k2; have fu1 := hW.u1; have fu9 := hW.u9; have fv1 := hW.v1; have fv9 := hW.v9
  refine xaload_n C 0 rfl dX6_at_0 ?_
  refine xiload_n C 1 rfl dX6_at_1 ?_
  refine xcVR C (c_X6_isPlace hK hW x) yk_X6_isPlace 0 rfl rfl xml_X6_75 ⟨⟨Nat.le_of_ble_eq_true rfl, Nat.le_of_ble_eq_true rfl⟩, ⟨rfl, rfl⟩, ⟨Nat.zero_le _, Nat.zero_le _⟩⟩ rfl (Nat.le_of_ble_eq_true rfl) dX6_at_2 ?_
  refine xif_eqN C 17 dX6_at_5 (by decide) (bn_lt _) (fun h5 => ?_) (fun h5 => ?_)
  ·
    have h5 := bn_0 h5
    refine xiconst (v := -1) C dX6_at_17 (by decide) ?_
    exact xret C hR (rfl) dX6_at_18 (MO.mk (by rw [opAt, ci_t h5]) hX)
  ·
    obtain ⟨p, hp, rfl⟩ := (bn_1 h5).nat hW
    refine xaload_n C 0 rfl dX6_at_8 ?_
    refine gX6_38 C dX6_at_9 ?_
    refine xiload_n C 1 rfl dX6_at_12 ?_
    refine ma_st C hW 12 (by decide) (by decide) hHd p (by omega) dX6_at_13 ?_
    have fb13 := (hHd p (by omega)).2
    refine xgoto C 18 dX6_at_14 (by decide) ?_
    exact xret C hR (rfl) dX6_at_18 (MO.mk (by rw [opAt, ci_f (fun q => q (hasP_nat hW hp)), show cl (nI p) = p from nI_clamp (by omega)]) hX)
theorem dX6_put_0 : decode cX6_put 0 = .ok (.aload_n 0, 1) := by decide +kernel
theorem dX6_put_1 : decode cX6_put 1 = .ok (.iload_n 1, 1) := by decide +kernel
theorem dX6_put_2 : decode cX6_put 2 = .ok (.invokevirtual 75, 3) := by decide +kernel
theorem dX6_put_5 : decode cX6_put 5 = .ok (.ifCond .ne 5, 3) := by decide +kernel
theorem dX6_put_8 : decode cX6_put 8 = .ok (.iconst (-1), 1) := by decide +kernel
theorem dX6_put_9 : decode cX6_put 9 = .ok (.ireturn, 1) := by decide +kernel
theorem dX6_put_10 : decode cX6_put 10 = .ok (.iload_n 2, 1) := by decide +kernel
theorem dX6_put_11 : decode cX6_put 11 = .ok (.iconst 0, 1) := by decide +kernel
theorem dX6_put_12 : decode cX6_put 12 = .ok (.aload_n 0, 1) := by decide +kernel
theorem dX6_put_13 : decode cX6_put 13 = .ok (.getfield 7, 3) := by decide +kernel
theorem dX6_put_16 : decode cX6_put 16 = .ok (.iload_n 1, 1) := by decide +kernel
theorem dX6_put_17 : decode cX6_put 17 = .ok (.iaload, 1) := by decide +kernel
theorem dX6_put_18 : decode cX6_put 18 = .ok (.invokestatic 56, 3) := by decide +kernel
theorem dX6_put_21 : decode cX6_put 21 = .ok (.ifCond .ne 6, 3) := by decide +kernel
theorem dX6_put_24 : decode cX6_put 24 = .ok (.bipush (-2), 2) := by decide +kernel
theorem dX6_put_26 : decode cX6_put 26 = .ok (.ireturn, 1) := by decide +kernel
theorem dX6_put_27 : decode cX6_put 27 = .ok (.aload_n 0, 1) := by decide +kernel
theorem dX6_put_28 : decode cX6_put 28 = .ok (.getfield 38, 3) := by decide +kernel
theorem dX6_put_31 : decode cX6_put 31 = .ok (.iload_n 1, 1) := by decide +kernel
theorem dX6_put_32 : decode cX6_put 32 = .ok (.iaload, 1) := by decide +kernel
theorem dX6_put_33 : decode cX6_put 33 = .ok (.istore_n 3, 1) := by decide +kernel
theorem dX6_put_34 : decode cX6_put 34 = .ok (.aload_n 0, 1) := by decide +kernel
theorem dX6_put_35 : decode cX6_put 35 = .ok (.getfield 38, 3) := by decide +kernel
theorem dX6_put_38 : decode cX6_put 38 = .ok (.iload_n 1, 1) := by decide +kernel
theorem dX6_put_39 : decode cX6_put 39 = .ok (.iload_n 2, 1) := by decide +kernel
theorem dX6_put_40 : decode cX6_put 40 = .ok (.iastore, 1) := by decide +kernel
theorem dX6_put_41 : decode cX6_put 41 = .ok (.aload_n 0, 1) := by decide +kernel
theorem dX6_put_42 : decode cX6_put 42 = .ok (.aload_n 0, 1) := by decide +kernel
theorem dX6_put_43 : decode cX6_put 43 = .ok (.getfield 38, 3) := by decide +kernel
theorem dX6_put_46 : decode cX6_put 46 = .ok (.invokevirtual 96, 3) := by decide +kernel
theorem dX6_put_49 : decode cX6_put 49 = .ok (.ifCond .ne 13, 3) := by decide +kernel
theorem dX6_put_52 : decode cX6_put 52 = .ok (.aload_n 0, 1) := by decide +kernel
theorem dX6_put_53 : decode cX6_put 53 = .ok (.getfield 38, 3) := by decide +kernel
theorem dX6_put_56 : decode cX6_put 56 = .ok (.iload_n 1, 1) := by decide +kernel
theorem dX6_put_57 : decode cX6_put 57 = .ok (.iload_n 3, 1) := by decide +kernel
theorem dX6_put_58 : decode cX6_put 58 = .ok (.iastore, 1) := by decide +kernel
theorem dX6_put_59 : decode cX6_put 59 = .ok (.bipush (-5), 2) := by decide +kernel
theorem dX6_put_61 : decode cX6_put 61 = .ok (.ireturn, 1) := by decide +kernel
theorem dX6_put_62 : decode cX6_put 62 = .ok (.iload_n 3, 1) := by decide +kernel
theorem dX6_put_63 : decode cX6_put 63 = .ok (.ireturn, 1) := by decide +kernel
def rX6_put : Room := { frames := 2, cells := 0, slots := 0, locals := 47 }
theorem yk_X6_put : YK yX6_put cX6_put 4 (some .int) 2 := ⟨xim_X6_put, xse_X6_put, xin_X6, xco_X6_put, by decide +kernel⟩
set_option maxRecDepth 4000 in
theorem c_X6_put {l : Launch} {D : va_G} {t : Nat → ClassId} {b : Nat → Nat} {I : Nat → Int32} {F : Nat → Nat → Int32} {K : Cfg} {sd : Int32} {hd : Nat → Nat} {dk : Bool} {dw : Nat → Nat} {mt : Int32} (hI : INV (K, sd, hd, dk, dw, mt)) (hX : RM (K, sd, hd, dk, dw, mt) I F) (x y : Int32) : CT l D t yX6_put cX6_put 4 (some .int) rX6_put 0 0 [.ref (b 0), .int x, .int y] (WM b t I F) (MO b t (opPut (K, sd, hd, dk, dw, mt) x y)) := by
  refine CT.of (by decide +kernel) (by simp [lg_sl, Value.category]) (fun X C hR => ?_)
  refine xlocals (lv' := [(0, .ref (b 0)), (1, .int x), (2, .int y)]) rfl ?_
  obtain ⟨hK, hsd, hHd, hdk, hdr⟩ := id hX
  have hW : WFK K := hI.1
  have hrg := hI.2.1
  have fn24 := hW.n24; have fm60 := hW.m60; have fk2 := hW.k2; have fu1 := hW.u1; have fu9 := hW.u9; have fv1 := hW.v1; have fv9 := hW.v9
  refine xaload_n C 0 rfl dX6_put_0 ?_
  refine xiload_n C 1 rfl dX6_put_1 ?_
  refine xcVR C (c_X6_isPlace hK hW x) yk_X6_isPlace 0 rfl rfl xml_X6_75 ⟨⟨Nat.le_of_ble_eq_true rfl, Nat.le_of_ble_eq_true rfl⟩, ⟨rfl, rfl⟩, ⟨Nat.zero_le _, Nat.zero_le _⟩⟩ rfl (Nat.le_of_ble_eq_true rfl) dX6_put_2 ?_
  refine xif_neN C 10 dX6_put_5 (by decide) (bn_lt _) (fun h5 => ?_) (fun h5 => ?_)
  ·
    obtain ⟨p, hp, rfl⟩ := (bn_1 h5).nat hW
    refine xiload_n C 2 rfl dX6_put_10 ?_
    refine xiconst (v := 0) C dX6_put_11 (by decide) ?_
    refine xaload_n C 0 rfl dX6_put_12 ?_
    refine gX6_7 C dX6_put_13 ?_
    refine xiload_n C 1 rfl dX6_put_16 ?_
    refine ma_top C hK hW p (by omega) dX6_put_17 ?_
    have fb17 := (hW.top5 (by omega))
    refine xcSR C (c_X6_in y 0 (nI (ktop K p))) sk_X6_in xml_X6_56 ⟨⟨Nat.le_of_ble_eq_true rfl, Nat.le_of_ble_eq_true rfl⟩, ⟨rfl, rfl⟩, ⟨Nat.zero_le _, Nat.zero_le _⟩⟩ rfl (Nat.le_of_ble_eq_true rfl) dX6_put_18 ?_
    refine xif_neN C 27 dX6_put_21 (by decide) (bn_lt _) (fun h21 => ?_) (fun h21 => ?_)
    ·
      have hin := bn_1 h21
      have ht5 := hW.top5 hp
      obtain ⟨q, _, hq, rfl⟩ := boxN (a := 0) (by decide) (show ktop K p < 1000000 by omega) (by rw [nI_0]; exact hin.1) hin.2
      refine xaload_n C 0 rfl dX6_put_27 ?_
      refine gX6_38 C dX6_put_28 ?_
      refine xiload_n C 1 rfl dX6_put_31 ?_
      refine ma_st C hW 12 (by decide) (by decide) hHd p (by omega) dX6_put_32 ?_
      have fb32 := (hHd p (by omega)).2
      refine xistore_n (lv' := [(3, .int (nI (hd p))), (0, .ref (b 0)), (1, .int (nI p)), (2, .int (nI q))]) C dX6_put_33 (by decide) rfl ?_
      refine xaload_n C 1 rfl dX6_put_34 ?_
      refine gX6_38 C dX6_put_35 ?_
      refine xiload_n C 2 rfl dX6_put_38 ?_
      refine xiload_n C 3 rfl dX6_put_39 ?_
      refine ms_st C 12 (by omega) (by omega) p (by omega) dX6_put_40 ?_
      obtain ⟨FA, eFA⟩ : ∃ z : Nat → Nat → Int32, z = va_up F 12 (upd (F 12) p (nI q)) := ⟨_, rfl⟩
      refine xworld (ws' := WM b t I FA) (by rw [eFA]) ?_
      have hHA : RA (kn K) (FA 12) (va_up hd p q) := by rw [eFA, va_up_self]; exact hHd.up (by omega)
      have hKA : CFG K I FA := by rw [eFA]; exact hK.upF (by omega) (by omega) _
      refine xaload_n C 1 rfl dX6_put_41 ?_
      refine xaload_n C 1 rfl dX6_put_42 ?_
      refine gX6_38 C dX6_put_43 ?_
      refine xcVR C (c_X6_isAllowed hKA hW 12 (by decide) (by decide) hHA (fun z hz => by by_cases e : z = p; (subst e; rw [va_up_self]; exact hq); (rw [va_up_ne _ _ e]; exact hrg z hz))) yk_X6_isAllowed 0 rfl rfl xml_X6_96 ⟨⟨Nat.le_of_ble_eq_true rfl, Nat.le_of_ble_eq_true rfl⟩, ⟨rfl, rfl⟩, ⟨Nat.zero_le _, Nat.zero_le _⟩⟩ rfl (Nat.le_of_ble_eq_true rfl) dX6_put_46 ?_
      refine xif_neN C 62 dX6_put_49 (by decide) (bn_lt _) (fun h49 => ?_) (fun h49 => ?_)
      ·
        refine xiload_n C 0 rfl dX6_put_62 ?_
        exact xret C hR (rfl) dX6_put_63 (MO.mk (by rw [opPut, ci_f (fun q => q (hasP_nat hW hp)), show cl (nI p) = p from nI_clamp (by omega), ci_f (fun q => q.elim hin.1 hin.2), show cl (nI q) = q from nI_clamp (by omega), ci_f (fun q => q (bn_1 h49))]) (hX.hnd (fun z hz => by rw [eFA, va_up_ne _ _ hz]) hHA))
      ·
        refine xaload_n C 1 rfl dX6_put_52 ?_
        refine gX6_38 C dX6_put_53 ?_
        refine xiload_n C 2 rfl dX6_put_56 ?_
        refine xiload_n C 0 rfl dX6_put_57 ?_
        refine ms_st C 12 (by omega) (by omega) p (by omega) dX6_put_58 ?_
        obtain ⟨FB, eFB⟩ : ∃ z : Nat → Nat → Int32, z = va_up FA 12 (upd (FA 12) p (nI (hd p))) := ⟨_, rfl⟩
        refine xworld (ws' := WM b t I FB) (by rw [eFB]) ?_
        refine xbipush (v := -5) C dX6_put_59 (by decide) ?_
        exact xret C hR (rfl) dX6_put_61 (MO.mk (by rw [opPut, ci_f (fun q => q (hasP_nat hW hp)), show cl (nI p) = p from nI_clamp (by omega), ci_f (fun q => q.elim hin.1 hin.2), show cl (nI q) = q from nI_clamp (by omega), ci_t (bn_0 h49)]) (hX.hnd (fun z hz => by rw [eFB, va_up_ne _ _ hz, eFA, va_up_ne _ _ hz]) (by rw [eFB, va_up_self, eFA, va_up_self]; exact hHd.back hp)))
    ·
      refine xbipush (v := -2) C dX6_put_24 (by decide) ?_
      exact xret C hR (rfl) dX6_put_26 (MO.mk (by rw [opPut, ci_f (fun q => q (hasP_nat hW hp)), show cl (nI p) = p from nI_clamp (by omega), ci_t (nand (bn_0 h21))]) hX)
  ·
    have h5 := bn_0 h5
    refine xiconst (v := -1) C dX6_put_8 (by decide) ?_
    exact xret C hR (rfl) dX6_put_9 (MO.mk (by rw [opPut, ci_t h5]) hX)
theorem dX6_copy_0 : decode cX6_copy 0 = .ok (.iconst 0, 1) := by decide +kernel
theorem dX6_copy_1 : decode cX6_copy 1 = .ok (.istore_n 3, 1) := by decide +kernel
theorem dX6_copy_2 : decode cX6_copy 2 = .ok (.iload_n 3, 1) := by decide +kernel
theorem dX6_copy_3 : decode cX6_copy 3 = .ok (.aload_n 0, 1) := by decide +kernel
theorem dX6_copy_4 : decode cX6_copy 4 = .ok (.getfield 53, 3) := by decide +kernel
theorem dX6_copy_7 : decode cX6_copy 7 = .ok (.if_icmp .ge 15, 3) := by decide +kernel
theorem dX6_copy_10 : decode cX6_copy 10 = .ok (.aload_n 2, 1) := by decide +kernel
theorem dX6_copy_11 : decode cX6_copy 11 = .ok (.iload_n 3, 1) := by decide +kernel
theorem dX6_copy_12 : decode cX6_copy 12 = .ok (.aload_n 1, 1) := by decide +kernel
theorem dX6_copy_13 : decode cX6_copy 13 = .ok (.iload_n 3, 1) := by decide +kernel
theorem dX6_copy_14 : decode cX6_copy 14 = .ok (.iaload, 1) := by decide +kernel
theorem dX6_copy_15 : decode cX6_copy 15 = .ok (.iastore, 1) := by decide +kernel
theorem dX6_copy_16 : decode cX6_copy 16 = .ok (.iinc 3 1, 3) := by decide +kernel
theorem dX6_copy_19 : decode cX6_copy 19 = .ok (.goto (-17), 3) := by decide +kernel
theorem dX6_copy_22 : decode cX6_copy 22 = .ok (.return_, 1) := by decide +kernel
def rX6_copy : Room := { frames := 0, cells := 0, slots := 0, locals := 0 }
theorem yk_X6_copy : YK yX6_copy cX6_copy 4 none 2 := ⟨xim_X6_copy, xse_X6_copy, xin_X6, xco_X6_copy, by decide +kernel⟩
set_option maxRecDepth 4000 in
theorem c_X6_copy {l : Launch} {D : va_G} {t : Nat → ClassId} {b : Nat → Nat} {I : Nat → Int32} {F : Nat → Nat → Int32} {K : Cfg} (hK : CFG K I F) (hW : WFK K) (i j : Nat) (hi8 : 8 ≤ i) (hi : i < 13) (h8 : 8 ≤ j) (hj : j < 13) (hne : i ≠ j) : CT l D t yX6_copy cX6_copy 4 none rX6_copy 0 0 [.ref (b 0), .ref (b i), .ref (b j)] (WM b t I F) (VP (fun w => ∃ F' : Nat → Nat → Int32, w = WM b t I F' ∧ (∀ q, q ≠ j → F' q = F q) ∧ ∀ p, p < kn K → F' j p = F i p)) := by
  refine CT.of (by decide +kernel) (by simp [lg_sl, Value.category]) (fun X C hR => ?_)
  refine xlocals (lv' := [(0, .ref (b 0)), (1, .ref (b i)), (2, .ref (b j))]) rfl ?_
  have fn24 := hW.n24; have fm60 := hW.m60; have fk2 := hW.k2; have fu1 := hW.u1; have fu9 := hW.u9; have fv1 := hW.v1; have fv9 := hW.v9
  refine xiconst (v := nI 0) C dX6_copy_0 (by decide) ?_
  refine xistore_n (lv' := [(3, .int (nI 0)), (0, .ref (b 0)), (1, .ref (b i)), (2, .ref (b j))]) C dX6_copy_1 (by decide) rfl ?_
  have LP2 : ∀ (fu2 : Nat) (x : Nat) (FA : Nat → Nat → Int32) (hx : x ≤ kn K) (hXA : ∀ q, q ≠ j → FA q = F q) (hA : ∀ p, p < x → FA j p = F i p), kn K - x < fu2 → XW X 0 0 (WM b t I FA) [(0, .ref (b 0)), (1, .ref (b i)), (2, .ref (b j)), (3, .int (nI x))] 2 [] := by
    intro fu2
    induction fu2 with
    | zero => intro x FA hx hXA hA hm2; exact absurd hm2 (Nat.not_lt_zero _)
    | succ fu2 ih2 =>
      intro x FA hx hXA hA hm2
      have hKA : CFG K I FA := hK.of (fun _ _ => rfl) (fun q hq => hXA q (by omega))
      refine xiload_n C 3 rfl dX6_copy_2 ?_
      refine xaload_n C 0 rfl dX6_copy_3 ?_
      refine gX6_53K C hKA dX6_copy_4 ?_
      refine xicmp_geN C 22 dX6_copy_7 (by decide) (by omega) (by omega) (fun h7 => ?_) (fun h7 => ?_)
      ·
        exact xvret C hR dX6_copy_22 (⟨rfl, FA, rfl, hXA, fun p hp => hA p (by omega)⟩)
      ·
        refine xaload_n C 2 rfl dX6_copy_10 ?_
        refine xiload_n C 3 rfl dX6_copy_11 ?_
        refine xaload_n C 1 rfl dX6_copy_12 ?_
        refine xiload_n C 3 rfl dX6_copy_13 ?_
        refine ma_raw C i (by omega) (by omega) x (by omega) dX6_copy_14 ?_
        refine ms_st C j h8 hj x (by omega) dX6_copy_15 ?_
        obtain ⟨FB, eFB⟩ : ∃ z : Nat → Nat → Int32, z = va_up FA j (upd (FA j) x (FA i x)) := ⟨_, rfl⟩
        refine xworld (ws' := WM b t I FB) (by rw [eFB]) ?_
        refine xiincN (lv' := [(3, .int (nI (x + 1))), (0, .ref (b 0)), (1, .ref (b i)), (2, .ref (b j))]) C 3 rfl dX6_copy_16 (by decide) rfl ?_
        refine xgoto C 2 dX6_copy_19 (by decide) ?_
        refine xsub [1, 2, 3, 0] rfl ?_
        exact ih2 (x + 1) FB (by omega) (fun q hq => by rw [eFB, va_up_ne _ _ hq]; exact hXA q hq) (fun p hp => by rw [eFB, va_up_self]; unfold upd; by_cases e : p = x; (rw [if_pos e, hXA i hne, e]); (rw [if_neg e]; exact hA p (by omega))) (by omega)
  refine xsub [1, 2, 3, 0] rfl ?_
  exact LP2 _ 0 F (Nat.zero_le _) (fun _ _ => rfl) (fun p h => absurd h (Nat.not_lt_zero _)) (Nat.lt_succ_self _)
theorem dX6_take_0 : decode cX6_take 0 = .ok (.iload_n 1, 1) := by decide +kernel
theorem dX6_take_1 : decode cX6_take 1 = .ok (.iconst 0, 1) := by decide +kernel
theorem dX6_take_2 : decode cX6_take 2 = .ok (.iconst 2, 1) := by decide +kernel
theorem dX6_take_3 : decode cX6_take 3 = .ok (.invokestatic 56, 3) := by decide +kernel
theorem dX6_take_6 : decode cX6_take 6 = .ok (.ifCond .ne 6, 3) := by decide +kernel
theorem dX6_take_9 : decode cX6_take 9 = .ok (.bipush (-2), 2) := by decide +kernel
theorem dX6_take_11 : decode cX6_take 11 = .ok (.ireturn, 1) := by decide +kernel
theorem dX6_take_12 : decode cX6_take 12 = .ok (.iload_n 1, 1) := by decide +kernel
theorem dX6_take_13 : decode cX6_take 13 = .ok (.iconst 2, 1) := by decide +kernel
theorem dX6_take_14 : decode cX6_take 14 = .ok (.if_icmp .ne 27, 3) := by decide +kernel
theorem dX6_take_17 : decode cX6_take 17 = .ok (.aload_n 0, 1) := by decide +kernel
theorem dX6_take_18 : decode cX6_take 18 = .ok (.getfield 60, 3) := by decide +kernel
theorem dX6_take_21 : decode cX6_take 21 = .ok (.ifCond .ne 6, 3) := by decide +kernel
theorem dX6_take_24 : decode cX6_take 24 = .ok (.bipush (-3), 2) := by decide +kernel
theorem dX6_take_26 : decode cX6_take 26 = .ok (.ireturn, 1) := by decide +kernel
theorem dX6_take_27 : decode cX6_take 27 = .ok (.aload_n 0, 1) := by decide +kernel
theorem dX6_take_28 : decode cX6_take 28 = .ok (.aload_n 0, 1) := by decide +kernel
theorem dX6_take_29 : decode cX6_take 29 = .ok (.getfield 47, 3) := by decide +kernel
theorem dX6_take_32 : decode cX6_take 32 = .ok (.aload_n 0, 1) := by decide +kernel
theorem dX6_take_33 : decode cX6_take 33 = .ok (.getfield 38, 3) := by decide +kernel
theorem dX6_take_36 : decode cX6_take 36 = .ok (.invokevirtual 100, 3) := by decide +kernel
theorem dX6_take_39 : decode cX6_take 39 = .ok (.iconst 1, 1) := by decide +kernel
theorem dX6_take_40 : decode cX6_take 40 = .ok (.ireturn, 1) := by decide +kernel
theorem dX6_take_41 : decode cX6_take 41 = .ok (.aload_n 0, 1) := by decide +kernel
theorem dX6_take_42 : decode cX6_take 42 = .ok (.invokevirtual 64, 3) := by decide +kernel
theorem dX6_take_45 : decode cX6_take 45 = .ok (.ifCond .ne 6, 3) := by decide +kernel
theorem dX6_take_48 : decode cX6_take 48 = .ok (.bipush (-5), 2) := by decide +kernel
theorem dX6_take_50 : decode cX6_take 50 = .ok (.ireturn, 1) := by decide +kernel
theorem dX6_take_51 : decode cX6_take 51 = .ok (.iload_n 1, 1) := by decide +kernel
theorem dX6_take_52 : decode cX6_take 52 = .ok (.ifCond .ne 14, 3) := by decide +kernel
theorem dX6_take_55 : decode cX6_take 55 = .ok (.aload_n 0, 1) := by decide +kernel
theorem dX6_take_56 : decode cX6_take 56 = .ok (.aload_n 0, 1) := by decide +kernel
theorem dX6_take_57 : decode cX6_take 57 = .ok (.getfield 38, 3) := by decide +kernel
theorem dX6_take_60 : decode cX6_take 60 = .ok (.invokevirtual 93, 3) := by decide +kernel
theorem dX6_take_63 : decode cX6_take 63 = .ok (.goto 11, 3) := by decide +kernel
theorem dX6_take_66 : decode cX6_take 66 = .ok (.aload_n 0, 1) := by decide +kernel
theorem dX6_take_67 : decode cX6_take 67 = .ok (.aload_n 0, 1) := by decide +kernel
theorem dX6_take_68 : decode cX6_take 68 = .ok (.getfield 38, 3) := by decide +kernel
theorem dX6_take_71 : decode cX6_take 71 = .ok (.invokevirtual 68, 3) := by decide +kernel
theorem dX6_take_74 : decode cX6_take 74 = .ok (.iconst 1, 1) := by decide +kernel
theorem dX6_take_75 : decode cX6_take 75 = .ok (.ireturn, 1) := by decide +kernel
def rX6_take : Room := { frames := 2, cells := 0, slots := 0, locals := 47 }
theorem yk_X6_take : YK yX6_take cX6_take 2 (some .int) 1 := ⟨xim_X6_take, xse_X6_take, xin_X6, xco_X6_take, by decide +kernel⟩
set_option maxRecDepth 4000 in
theorem c_X6_take {l : Launch} {D : va_G} {t : Nat → ClassId} {b : Nat → Nat} {I : Nat → Int32} {F : Nat → Nat → Int32} {K : Cfg} {sd : Int32} {hd : Nat → Nat} {dk : Bool} {dw : Nat → Nat} {mt : Int32} (hI : INV (K, sd, hd, dk, dw, mt)) (hX : RM (K, sd, hd, dk, dw, mt) I F) (x : Int32) : CT l D t yX6_take cX6_take 2 (some .int) rX6_take 0 0 [.ref (b 0), .int x] (WM b t I F) (MO b t (opTake (K, sd, hd, dk, dw, mt) x)) := by
  refine CT.of (by decide +kernel) (by simp [lg_sl, Value.category]) (fun X C hR => ?_)
  refine xlocals (lv' := [(0, .ref (b 0)), (1, .int x)]) rfl ?_
  obtain ⟨hK, hsd, hHd, hdk, hdr⟩ := id hX
  have hW : WFK K := hI.1
  have hrg := hI.2.1
  have fn24 := hW.n24; have fm60 := hW.m60; have fk2 := hW.k2; have fu1 := hW.u1; have fu9 := hW.u9; have fv1 := hW.v1; have fv9 := hW.v9
  refine xiload_n C 1 rfl dX6_take_0 ?_
  refine xiconst (v := 0) C dX6_take_1 (by decide) ?_
  refine xiconst (v := 2) C dX6_take_2 (by decide) ?_
  refine xcSR C (c_X6_in x 0 2) sk_X6_in xml_X6_56 ⟨⟨Nat.le_of_ble_eq_true rfl, Nat.le_of_ble_eq_true rfl⟩, ⟨rfl, rfl⟩, ⟨Nat.zero_le _, Nat.zero_le _⟩⟩ rfl (Nat.le_of_ble_eq_true rfl) dX6_take_3 ?_
  refine xif_neN C 12 dX6_take_6 (by decide) (bn_lt _) (fun h6 => ?_) (fun h6 => ?_)
  ·
    refine xiload_n C 1 rfl dX6_take_12 ?_
    refine xiconst (v := 2) C dX6_take_13 (by decide) ?_
    refine xicmp_ne C 41 dX6_take_14 (by decide) (fun h14 => ?_) (fun h14 => ?_)
    ·
      refine xaload_n C 0 rfl dX6_take_41 ?_
      refine xcVE C (c_X6_isGood hK hW) yk_X6_isGood 0 rfl rfl xml_X6_64 ⟨⟨Nat.le_of_ble_eq_true rfl, Nat.le_of_ble_eq_true rfl⟩, ⟨rfl, rfl⟩, ⟨Nat.zero_le _, Nat.zero_le _⟩⟩ rfl (Nat.le_of_ble_eq_true rfl) dX6_take_42 (fun vE wE hE => ?_)
      obtain ⟨rfl, FA, rfl, hXA⟩ := hE
      have hKA : CFG K I FA := hK.of (fun _ _ => rfl) (fun q hq => hXA q (by omega))
      refine xif_neN C 51 dX6_take_45 (by decide) (bn_lt _) (fun h45 => ?_) (fun h45 => ?_)
      ·
        refine xiload_n C 1 rfl dX6_take_51 ?_
        refine xif_ne C 66 dX6_take_52 (by decide) (fun h52 => ?_) (fun h52 => ?_)
        ·
          refine xaload_n C 0 rfl dX6_take_66 ?_
          refine xaload_n C 0 rfl dX6_take_67 ?_
          refine gX6_38 C dX6_take_68 ?_
          refine xcVV C (c_X6_layLow hKA hW 12 (by decide) (by decide)) yk_X6_layLow 0 rfl rfl xml_X6_68 ⟨⟨Nat.le_of_ble_eq_true rfl, Nat.le_of_ble_eq_true rfl⟩, ⟨rfl, rfl⟩, ⟨Nat.zero_le _, Nat.zero_le _⟩⟩ rfl (Nat.le_of_ble_eq_true rfl) dX6_take_71 (fun wE hE => ?_)
          obtain ⟨FB, rfl, hXB, hRB, _⟩ := hE
          refine xiconst (v := nI 1) C dX6_take_74 (by decide) ?_
          exact xret C hR (rfl) dX6_take_75 (MO.mk (by rw [opTake, ci_f (fun q => q.elim (bn_1 h6).1 (bn_1 h6).2), ci_f (fun q => h14 q.1), ci_f (fun q => q (bn_1 h45)), ci_f h52, ci_t (take1 (bn_1 h6).1 (bn_1 h6).2 h14 h52), nI_one]) ((hX.of (fun _ _ => rfl) (fun q h1 h2 h3 => hXA q h3)).hnd hXB hRB))
        ·
          refine xaload_n C 0 rfl dX6_take_55 ?_
          refine xaload_n C 0 rfl dX6_take_56 ?_
          refine gX6_38 C dX6_take_57 ?_
          refine xcVV C (c_X6_layHigh hKA hW 12 (by decide) (by decide)) yk_X6_layHigh 0 rfl rfl xml_X6_93 ⟨⟨Nat.le_of_ble_eq_true rfl, Nat.le_of_ble_eq_true rfl⟩, ⟨rfl, rfl⟩, ⟨Nat.zero_le _, Nat.zero_le _⟩⟩ rfl (Nat.le_of_ble_eq_true rfl) dX6_take_60 (fun wE hE => ?_)
          obtain ⟨FB, rfl, hXB, hRB, _⟩ := hE
          refine xgoto C 74 dX6_take_63 (by decide) ?_
          refine xiconst (v := nI 1) C dX6_take_74 (by decide) ?_
          exact xret C hR (rfl) dX6_take_75 (MO.mk (by rw [opTake, ci_f (fun q => q.elim (bn_1 h6).1 (bn_1 h6).2), ci_f (fun q => h14 q.1), ci_f (fun q => q (bn_1 h45)), ci_t h52, nI_one]) ((hX.of (fun _ _ => rfl) (fun q h1 h2 h3 => hXA q h3)).hnd hXB hRB))
      ·
        refine xbipush (v := -5) C dX6_take_48 (by decide) ?_
        exact xret C hR (rfl) dX6_take_50 (MO.mk (by rw [opTake, ci_f (fun q => q.elim (bn_1 h6).1 (bn_1 h6).2), ci_f (fun q => h14 q.1), ci_t (bn_0 h45)]) (hX.of (fun _ _ => rfl) (fun q h1 h2 h3 => hXA q h3)))
    ·
      refine xaload_n C 0 rfl dX6_take_17 ?_
      refine gX6_60 C dX6_take_18 ?_
      refine xtopi (y := nI (dkN dk)) (hdk) ?_
      have hdl := dkN_le dk
      refine xif_neN C 27 dX6_take_21 (by decide) (by omega) (fun h21 => ?_) (fun h21 => ?_)
      ·
        refine xaload_n C 0 rfl dX6_take_27 ?_
        refine xaload_n C 0 rfl dX6_take_28 ?_
        refine gX6_47 C dX6_take_29 ?_
        refine xaload_n C 0 rfl dX6_take_32 ?_
        refine gX6_38 C dX6_take_33 ?_
        refine xcVV C (c_X6_copy hK hW 10 12 (by decide) (by decide) (by decide) (by decide) (by decide)) yk_X6_copy 0 rfl rfl xml_X6_100 ⟨⟨Nat.le_of_ble_eq_true rfl, Nat.le_of_ble_eq_true rfl⟩, ⟨rfl, rfl⟩, ⟨Nat.zero_le _, Nat.zero_le _⟩⟩ rfl (Nat.le_of_ble_eq_true rfl) dX6_take_36 (fun wE hE => ?_)
        obtain ⟨FA, rfl, hXA, hAc⟩ := hE
        refine xiconst (v := nI 1) C dX6_take_39 (by decide) ?_
        exact xret C hR (rfl) dX6_take_40 (MO.mk (by rw [opTake, ci_f (fun q => q.elim (bn_1 h6).1 (bn_1 h6).2), ci_f (fun q => by have := dk1 h21; rw [q.2] at this; cases this), ci_f (fun q => q (hI.2.2.2 (dk1 h21)).1), ci_f (by rw [h14]; decide +kernel), ci_f (by rw [h14]; decide +kernel), nI_one]) (hX.hnd hXA (fun z hz => by rw [hAc z hz]; exact (hdr (dk1 h21)).1 z hz)))
      ·
        refine xbipush (v := -3) C dX6_take_24 (by decide) ?_
        exact xret C hR (rfl) dX6_take_26 (MO.mk (by rw [opTake, ci_f (fun q => q.elim (bn_1 h6).1 (bn_1 h6).2), ci_t ⟨h14, dk0 h21⟩]) hX)
  ·
    refine xbipush (v := -2) C dX6_take_9 (by decide) ?_
    exact xret C hR (rfl) dX6_take_11 (MO.mk (by rw [opTake, ci_t (nand (bn_0 h6))]) hX)
theorem dX6_seed_0 : decode cX6_seed 0 = .ok (.aload_n 0, 1) := by decide +kernel
theorem dX6_seed_1 : decode cX6_seed 1 = .ok (.getfield 104, 3) := by decide +kernel
theorem dX6_seed_4 : decode cX6_seed 4 = .ok (.istore_n 2, 1) := by decide +kernel
theorem dX6_seed_5 : decode cX6_seed 5 = .ok (.aload_n 0, 1) := by decide +kernel
theorem dX6_seed_6 : decode cX6_seed 6 = .ok (.iload_n 1, 1) := by decide +kernel
theorem dX6_seed_7 : decode cX6_seed 7 = .ok (.putfield 104, 3) := by decide +kernel
theorem dX6_seed_10 : decode cX6_seed 10 = .ok (.iload_n 2, 1) := by decide +kernel
theorem dX6_seed_11 : decode cX6_seed 11 = .ok (.ireturn, 1) := by decide +kernel
def rX6_seed : Room := { frames := 0, cells := 0, slots := 0, locals := 0 }
theorem yk_X6_seed : YK yX6_seed cX6_seed 3 (some .int) 1 := ⟨xim_X6_seed, xse_X6_seed, xin_X6, xco_X6_seed, by decide +kernel⟩
set_option maxRecDepth 4000 in
theorem c_X6_seed {l : Launch} {D : va_G} {t : Nat → ClassId} {b : Nat → Nat} {I : Nat → Int32} {F : Nat → Nat → Int32} {K : Cfg} {sd : Int32} {hd : Nat → Nat} {dk : Bool} {dw : Nat → Nat} {mt : Int32} (hI : INV (K, sd, hd, dk, dw, mt)) (hX : RM (K, sd, hd, dk, dw, mt) I F) (x : Int32) : CT l D t yX6_seed cX6_seed 3 (some .int) rX6_seed 0 0 [.ref (b 0), .int x] (WM b t I F) (MO b t (opSeed (K, sd, hd, dk, dw, mt) x)) := by
  refine CT.of (by decide +kernel) (by simp [lg_sl, Value.category]) (fun X C hR => ?_)
  refine xlocals (lv' := [(0, .ref (b 0)), (1, .int x)]) rfl ?_
  obtain ⟨hK, hsd, hHd, hdk, hdr⟩ := id hX
  have hW : WFK K := hI.1
  have hrg := hI.2.1
  have fn24 := hW.n24; have fm60 := hW.m60; have fk2 := hW.k2; have fu1 := hW.u1; have fu9 := hW.u9; have fv1 := hW.v1; have fv9 := hW.v9
  refine xaload_n C 0 rfl dX6_seed_0 ?_
  refine gX6_104 C dX6_seed_1 ?_
  refine xtopi (y := sd) (hsd) ?_
  refine xistore_n (lv' := [(2, .int sd), (0, .ref (b 0)), (1, .int x)]) C dX6_seed_4 (by decide) rfl ?_
  refine xaload_n C 1 rfl dX6_seed_5 ?_
  refine xiload_n C 2 rfl dX6_seed_6 ?_
  refine pX6_104 C dX6_seed_7 ?_
  obtain ⟨IA, eIA⟩ : ∃ z : Nat → Int32, z = va_up I 10 x := ⟨_, rfl⟩
  refine xworld (ws' := WM b t IA F) (by rw [eIA]) ?_
  refine xiload_n C 0 rfl dX6_seed_10 ?_
  exact xret C hR (rfl) dX6_seed_11 (MO.mk (by rw [opSeed]) (hX.seed eIA))
