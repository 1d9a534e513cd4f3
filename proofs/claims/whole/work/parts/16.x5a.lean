/-! The class's calls, 1: the system (written by my program parts_x5.py). -/
theorem startAnew_end {K : Cfg} {sd : Int32} {IC : Nat → Int32} {FA FB : Nat → Nat → Int32} (hW : WFK K) (hKC : CFG K IC FB) (hsd : IC 10 = sd) (h9 : IC 9 = nI 0) (hg : IC 5 = nI (bn (GoodP K))) (hH : RA (kn K) (FB 6) (hS K)) (hL : RA (kn K) (FB 7) (lS K)) (hX : ∀ q, q ≠ 12 → FA q = FB q) (hA : ∀ x, x < kn K → FA 12 x = if bn (GoodP K) = 0 then nI 0 else FB 7 x) : RX (freshA K sd) IC FA := by
  refine ⟨hKC.of (fun _ _ => rfl) (fun q hq => hX q (by omega)), hsd, fun p hp => ?_, h9, (fun h => by cases h), hg, by rw [hX 6 (by decide)]; exact hH, by rw [hX 7 (by decide)]; exact hL⟩
  dsimp only
  rw [hA p hp]
  rcases Classical.em (GoodP K) with h | h
  · rw [ci_t h, bn_t h, if_neg (by decide)]; exact hL p hp
  · rw [ci_f h, bn_f h, if_pos rfl]; exact ⟨rfl, by omega⟩
theorem boxN {x : Int32} {a b : Nat} (ha : a < 1000000) (hb : b < 1000000) (h1 : ¬ x < nI a) (h2 : ¬ nI b < x) : ∃ q, a ≤ q ∧ q ≤ b ∧ x = nI q := by
  have h3 := Int32.le_iff_toInt_le.mp (Int32.not_lt.mp h1)
  have h4 := Int32.le_iff_toInt_le.mp (Int32.not_lt.mp h2)
  rw [nI_toInt (by omega)] at h3 h4
  refine ⟨x.toInt.toNat, by omega, by omega, ?_⟩
  apply Int32.toInt_inj.mp
  rw [nI_toInt (by omega)]
  omega
theorem box15 {x : Int32} (h1 : ¬ x < 1) (h2 : ¬ 5 < x) : ∃ q, 1 ≤ q ∧ q ≤ 5 ∧ x = nI q := boxN (a := 1) (b := 5) (by decide) (by decide) h1 h2
theorem box19 {x : Int32} (h1 : ¬ x < 1) (h2 : ¬ 9 < x) : ∃ q, 1 ≤ q ∧ q ≤ 9 ∧ x = nI q := boxN (a := 1) (b := 9) (by decide) (by decide) h1 h2
theorem box01 {x : Int32} (h1 : ¬ x < 0) (h2 : ¬ 1 < x) : ∃ q, q ≤ 1 ∧ x = nI q := by
  obtain ⟨q, _, h3, h4⟩ := boxN (a := 0) (b := 1) (by decide) (by decide) h1 h2
  exact ⟨q, h3, h4⟩
theorem box02 {x : Int32} (h1 : ¬ x < 0) (h2 : ¬ 2 < x) : ∃ q, q ≤ 2 ∧ x = nI q := by
  obtain ⟨q, _, h3, h4⟩ := boxN (a := 0) (b := 2) (by decide) (by decide) h1 h2
  exact ⟨q, h3, h4⟩
theorem box18 {x : Int32} (h1 : ¬ x < 1) (h2 : ¬ 8 < x) : ∃ q, 1 ≤ q ∧ q ≤ 8 ∧ x = nI q := boxN (a := 1) (b := 8) (by decide) (by decide) h1 h2
theorem WFK.addP {K : Cfg} (hW : WFK K) {x y : Nat} (h1 : 1 ≤ x) (h5 : x ≤ 5) (hy : y ≤ 1) (hn : kn K < 24) : WFK (addP K x y) := by
  refine ⟨hn, hW.m60, hW.k2, ⟨hW.u1, hW.u9⟩, ⟨hW.v1, hW.v9⟩, fun p hp => ?_, hW.dg6, fun p hp => hW.dg0 (Nat.le_of_succ_le hp), fun p i hp hi => ?_, fun k hk => ?_⟩
  · have hp1 : p < kn K + 1 := hp
    show 1 ≤ va_up (ktop K) (kn K) x p ∧ va_up (ktop K) (kn K) x p ≤ 5 ∧ va_up (ksi K) (kn K) y p ≤ 1 ∧ va_up (khd K) (kn K) 0 p ≤ va_up (ktop K) (kn K) x p + 1
    by_cases e : p = kn K
    · subst e; rw [va_up_self, va_up_self, va_up_self]; omega
    · rw [va_up_ne _ _ e, va_up_ne _ _ e, va_up_ne _ _ e]; exact hW.pl (by omega)
  · have hp1 : p < kn K + 1 := hp
    have hi1 : i < kdg K p := hi
    by_cases e : p = kn K
    · rw [e, hW.dg0 (Nat.le_refl _)] at hi1; omega
    · exact Nat.lt_succ_of_lt (hW.nb (by omega) hi1)
  · obtain ⟨h1, h2, h3, h4, h5⟩ := hW.lk hk
    exact ⟨Nat.lt_succ_of_lt h1, Nat.lt_succ_of_lt h2, h3, h4, h5⟩
theorem hasP_nat {K : Cfg} {p : Nat} (hW : WFK K) (hp : p < kn K) : hasP K (nI p) := ⟨nI_pos (by have := hW.n24; omega), (nI_ltI (by have := hW.n24; omega) (by have := hW.n24; omega)).mpr hp⟩
theorem nI_one : nI 1 = 1 := by decide +kernel
theorem insN_above {q : Nat} : ∀ {d : Nat} {f : Nat → Nat} {i : Nat}, d < i → insN f q d i = f i
  | 0, f, i, h => va_up_ne f q (by omega)
  | d + 1, f, i, h => by
    show (if q < f d then insN (va_up f (d + 1) (f d)) q d else va_up f (d + 1) q) i = f i
    split
    · rw [insN_above (by omega), va_up_ne _ _ (by omega)]
    · rw [va_up_ne _ _ (by omega)]
theorem insN_mem {q : Nat} : ∀ {d : Nat} {f : Nat → Nat} {i : Nat}, i ≤ d → insN f q d i = q ∨ ∃ j, j < d ∧ insN f q d i = f j
  | 0, f, i, h => by
    obtain rfl : i = 0 := by omega
    exact Or.inl (va_up_self _ _ _)
  | d + 1, f, i, h => by
    show (if q < f d then insN (va_up f (d + 1) (f d)) q d else va_up f (d + 1) q) i = q ∨ ∃ j, j < d + 1 ∧ (if q < f d then insN (va_up f (d + 1) (f d)) q d else va_up f (d + 1) q) i = f j
    split
    · by_cases e : i = d + 1
      · subst e
        rw [insN_above (by omega), va_up_self]
        exact Or.inr ⟨d, by omega, rfl⟩
      · rcases insN_mem (q := q) (f := va_up f (d + 1) (f d)) (show i ≤ d by omega) with h1 | ⟨j, h1, h2⟩
        · exact Or.inl h1
        · exact Or.inr ⟨j, by omega, by rw [h2, va_up_ne _ _ (by omega)]⟩
    · by_cases e : i = d + 1
      · subst e; exact Or.inl (va_up_self _ _ _)
      · exact Or.inr ⟨i, by omega, va_up_ne _ _ e⟩
theorem insN_q {q : Nat} : ∀ {d : Nat} {f : Nat → Nat}, ∃ i, i ≤ d ∧ insN f q d i = q
  | 0, f => ⟨0, Nat.le_refl _, va_up_self _ _ _⟩
  | d + 1, f => by
    show ∃ i, i ≤ d + 1 ∧ (if q < f d then insN (va_up f (d + 1) (f d)) q d else va_up f (d + 1) q) i = q
    split
    · obtain ⟨i, h1, h2⟩ := insN_q (q := q) (d := d) (f := va_up f (d + 1) (f d))
      exact ⟨i, by omega, h2⟩
    · exact ⟨d + 1, Nat.le_refl _, va_up_self _ _ _⟩
theorem insN_has {q : Nat} : ∀ {d : Nat} {f : Nat → Nat} {j : Nat}, j < d → ∃ i, i ≤ d ∧ insN f q d i = f j
  | 0, f, j, h => by omega
  | d + 1, f, j, h => by
    show ∃ i, i ≤ d + 1 ∧ (if q < f d then insN (va_up f (d + 1) (f d)) q d else va_up f (d + 1) q) i = f j
    split
    · by_cases e : j = d
      · subst e; exact ⟨j + 1, Nat.le_refl _, by rw [insN_above (by omega), va_up_self]⟩
      · obtain ⟨i, h1, h2⟩ := insN_has (q := q) (d := d) (f := va_up f (d + 1) (f d)) (show j < d by omega)
        exact ⟨i, by omega, by rw [h2, va_up_ne _ _ (by omega)]⟩
    · exact ⟨j, by omega, va_up_ne _ _ (by omega)⟩
theorem WFK.addL {K : Cfg} (hW : WFK K) {p q : Nat} (hm : km K < 60) (hp : p < kn K) (hq : q < kn K) (hne : p ≠ q) (hdp : kdg K p < 6) (hdq : kdg K q < 6) : WFK (addL K p q) := by
  have key : ∀ x y : Nat, (∃ i, i < kdg K x ∧ knb K x i = y) → ∃ i, i < va_up (va_up (kdg K) p (kdg K p + 1)) q (kdg K q + 1) x ∧ va_up (va_up (knb K) p (insN (knb K p) q (kdg K p))) q (insN (knb K q) p (kdg K q)) x i = y := by
    intro x y ⟨i, h1, h2⟩
    by_cases e1 : x = q
    · subst e1
      rw [va_up_self, va_up_self]
      obtain ⟨i', h3, h4⟩ := insN_has (q := p) (f := knb K x) h1
      exact ⟨i', by omega, h4.trans h2⟩
    · rw [va_up_ne _ _ e1, va_up_ne _ _ e1]
      by_cases e2 : x = p
      · subst e2
        rw [va_up_self, va_up_self]
        obtain ⟨i', h3, h4⟩ := insN_has (q := q) (f := knb K x) h1
        exact ⟨i', by omega, h4.trans h2⟩
      · rw [va_up_ne _ _ e2, va_up_ne _ _ e2]
        exact ⟨i, h1, h2⟩
  refine ⟨hW.n24, hm, hW.k2, ⟨hW.u1, hW.u9⟩, ⟨hW.v1, hW.v9⟩, fun x hx => hW.pl hx, fun x => ?_, fun x hx => ?_, fun x i hx hi => ?_, fun k hk => ?_⟩
  · show va_up (va_up (kdg K) p (kdg K p + 1)) q (kdg K q + 1) x ≤ 6
    by_cases e1 : x = q
    · subst e1; rw [va_up_self]; omega
    · rw [va_up_ne _ _ e1]
      by_cases e2 : x = p
      · subst e2; rw [va_up_self]; omega
      · rw [va_up_ne _ _ e2]; exact hW.dg6 x
  · have hx' : kn K ≤ x := hx
    show va_up (va_up (kdg K) p (kdg K p + 1)) q (kdg K q + 1) x = 0
    rw [va_up_ne _ _ (by omega), va_up_ne _ _ (by omega)]
    exact hW.dg0 hx'
  · have hx' : x < kn K := hx
    have hi' : i < va_up (va_up (kdg K) p (kdg K p + 1)) q (kdg K q + 1) x := hi
    show va_up (va_up (knb K) p (insN (knb K p) q (kdg K p))) q (insN (knb K q) p (kdg K q)) x i < kn K
    by_cases e1 : x = q
    · subst e1
      rw [va_up_self] at hi' ⊢
      rcases insN_mem (q := p) (f := knb K x) (show i ≤ kdg K x by omega) with h | ⟨j, h1, h2⟩
      · rw [h]; exact hp
      · rw [h2]; exact hW.nb hx' h1
    · rw [va_up_ne _ _ e1] at hi' ⊢
      by_cases e2 : x = p
      · subst e2
        rw [va_up_self] at hi' ⊢
        rcases insN_mem (q := q) (f := knb K x) (show i ≤ kdg K x by omega) with h | ⟨j, h1, h2⟩
        · rw [h]; exact hq
        · rw [h2]; exact hW.nb hx' h1
      · rw [va_up_ne _ _ e2] at hi' ⊢
        exact hW.nb hx' hi'
  · have hk' : k < km K + 1 := hk
    show va_up (kla K) (km K) p k < kn K ∧ va_up (klb K) (km K) q k < kn K ∧ va_up (kla K) (km K) p k ≠ va_up (klb K) (km K) q k ∧ (∃ i, i < va_up (va_up (kdg K) p (kdg K p + 1)) q (kdg K q + 1) (va_up (kla K) (km K) p k) ∧ va_up (va_up (knb K) p (insN (knb K p) q (kdg K p))) q (insN (knb K q) p (kdg K q)) (va_up (kla K) (km K) p k) i = va_up (klb K) (km K) q k) ∧ (∃ i, i < va_up (va_up (kdg K) p (kdg K p + 1)) q (kdg K q + 1) (va_up (klb K) (km K) q k) ∧ va_up (va_up (knb K) p (insN (knb K p) q (kdg K p))) q (insN (knb K q) p (kdg K q)) (va_up (klb K) (km K) q k) i = va_up (kla K) (km K) p k)
    by_cases e : k = km K
    · subst e
      rw [va_up_self, va_up_self]
      refine ⟨hp, hq, hne, ?_, ?_⟩
      · rw [va_up_ne _ _ hne, va_up_self, va_up_ne _ _ hne, va_up_self]
        obtain ⟨i, h1, h2⟩ := insN_q (q := q) (d := kdg K p) (f := knb K p)
        exact ⟨i, by omega, h2⟩
      · rw [va_up_self, va_up_self]
        obtain ⟨i, h1, h2⟩ := insN_q (q := p) (d := kdg K q) (f := knb K q)
        exact ⟨i, by omega, h2⟩
    · rw [va_up_ne _ _ e, va_up_ne _ _ e]
      obtain ⟨h1, h2, h3, h4, h5⟩ := hW.lk (show k < km K by omega)
      exact ⟨h1, h2, h3, key _ _ h4, key _ _ h5⟩
theorem CFG.setK {K : Cfg} {I : Nat → Int32} {F : Nat → Nat → Int32} (h : CFG K I F) (x y z : Nat) : CFG (setK K x y z) (va_up (va_up (va_up I 2 (nI x)) 3 (nI y)) 4 (nI z)) F := by
  obtain ⟨h1, h2, h3, h4, h5, h6⟩ := h
  exact ⟨h1, h2, rfl, rfl, rfl, h6⟩
theorem WFK.setK {K : Cfg} (hW : WFK K) {x y z : Nat} (hx : x ≤ 2) (hy1 : 1 ≤ y) (hy9 : y ≤ 9) (hz1 : 1 ≤ z) (hz9 : z ≤ 9) : WFK (setK K x y z) := by
  obtain ⟨h1, h2, h3, h4, h5, h6⟩ := hW
  exact ⟨h1, h2, hx, ⟨hy1, hy9⟩, ⟨hz1, hz9⟩, h6⟩
theorem CFG.setH {K : Cfg} {I : Nat → Int32} {F F' : Nat → Nat → Int32} (h : CFG K I F) {p q : Nat} (hp : p < kn K) (e2 : F' 2 = upd (F 2) p (nI q - 1)) (e : ∀ z, z ≠ 2 → F' z = F z) : CFG (setH K p q) I F' := by
  obtain ⟨h1, h2, h3, h4, h5, h6, h7, h8, h9⟩ := h
  refine ⟨h1, h2, h3, h4, h5, fun x hx => ?_, fun x hx => by rw [e 3 (by decide)]; exact h7 x hx, fun x i hx hi => by rw [e (13 + x) (by omega)]; exact h8 x i hx hi, fun k hk => by rw [e 4 (by decide), e 5 (by decide)]; exact h9 k hk⟩
  rw [e 0 (by decide), e 1 (by decide), e2]
  refine ⟨(h6 x hx).1, (h6 x hx).2.1, ?_⟩
  show upd (F 2) p (nI q - 1) x = nI (va_up (khd K) p q x) - 1
  unfold upd va_up
  by_cases e3 : x = p
  · rw [if_pos e3, if_pos e3]
  · rw [if_neg e3, if_neg e3]; exact (h6 x hx).2.2
theorem WFK.setH {K : Cfg} (hW : WFK K) {p q : Nat} (hp : p < kn K) (hq : q ≤ ktop K p + 1) : WFK (setH K p q) := by
  obtain ⟨h1, h2, h3, h4, h5, h6, h7⟩ := hW
  refine ⟨h1, h2, h3, h4, h5, fun x hx => ?_, h7⟩
  show 1 ≤ ktop K x ∧ ktop K x ≤ 5 ∧ ksi K x ≤ 1 ∧ va_up (khd K) p q x ≤ ktop K x + 1
  obtain ⟨g1, g2, g3, g4⟩ := h6 x hx
  by_cases e3 : x = p
  · subst e3; rw [va_up_self]; exact ⟨g1, g2, g3, hq⟩
  · rw [va_up_ne _ _ e3]; exact ⟨g1, g2, g3, g4⟩
theorem boxH {y : Int32} {T : Nat} (hT : T ≤ 5) (h1 : ¬ y < -1) (h2 : ¬ nI T < y) : ∃ q, q ≤ T + 1 ∧ y = nI q - 1 ∧ y + 1 = nI q := by
  have h3 := Int32.le_iff_toInt_le.mp (Int32.not_lt.mp h1)
  have h4 := Int32.le_iff_toInt_le.mp (Int32.not_lt.mp h2)
  rw [nI_toInt (by omega)] at h4
  have h5 : (-1 : Int32).toInt = -1 := by decide +kernel
  have e : y = nI (y.toInt + 1).toNat - nI 1 := by
    apply Int32.toInt_inj.mp
    rw [pk_sub_toInt (by omega) (by omega)]
    omega
  have e2 : y = nI (y.toInt + 1).toNat - 1 := e
  refine ⟨(y.toInt + 1).toNat, by omega, e2, ?_⟩
  calc y + 1 = (nI (y.toInt + 1).toNat - 1) + 1 := by rw [← e2]
    _ = nI (y.toInt + 1).toNat := by simp
theorem RX.hnd {K : Cfg} {sd : Int32} {hd hd' : Nat → Nat} {dk : Bool} {dw : Nat → Nat} {mt : Int32} {I : Nat → Int32} {F F' : Nat → Nat → Int32} (h : RX (K, sd, hd, dk, dw, mt) I F) (hF : ∀ q, q ≠ 12 → F' q = F q) (hH : RA (kn K) (F' 12) hd') : RX (K, sd, hd', dk, dw, mt) I F' := by
  obtain ⟨h1, h2, h3, h4, h5, h6, h7, h8⟩ := h
  exact ⟨h1.of (fun _ _ => rfl) (fun q hq => hF q (by omega)), h2, hH, h4, by rw [hF 10 (by decide)]; exact h5, h6, by rw [hF 6 (by decide)]; exact h7, by rw [hF 7 (by decide)]; exact h8⟩
theorem RX.seed {K : Cfg} {sd x : Int32} {hd : Nat → Nat} {dk : Bool} {dw : Nat → Nat} {mt : Int32} {I IA : Nat → Int32} {F : Nat → Nat → Int32} (h : RX (K, sd, hd, dk, dw, mt) I F) (e : IA = va_up I 10 x) : RX (K, x, hd, dk, dw, mt) IA F := by
  obtain ⟨h1, h2, h3, h4, h5, h6, h7, h8⟩ := h
  subst e
  exact ⟨h1.upI (by omega) _, va_up_self _ _ _, h3, h4, h5, h6, h7, h8⟩
theorem RA.back {n p : Nat} {g : Nat → Int32} {f : Nat → Nat} {x : Int32} (h : RA n g f) (hp : p < n) : RA n (upd (upd g p x) p (nI (f p))) f := by
  intro q hq
  unfold upd
  by_cases e : q = p
  · subst e; rw [if_pos rfl]; exact ⟨rfl, (h q hq).2⟩
  · rw [if_neg e, if_neg e]; exact h q hq
theorem take2 {x : Int32} (h1 : ¬ x < 0) (h6 : x ≤ 2) (h44 : ¬ x = 0) (h59 : ¬ x = 1) : x = 2 := by
  obtain ⟨q, hq, rfl⟩ := box02 h1 (Int32.not_lt.mpr h6)
  rcases (show q = 0 ∨ q = 1 ∨ q = 2 by omega) with rfl | rfl | rfl
  · exact absurd rfl h44
  · exact absurd rfl h59
  · rfl
theorem dX5_startAnew_0 : decode cX5_startAnew 0 = .ok (.aload_n 0, 1) := by decide +kernel
theorem dX5_startAnew_1 : decode cX5_startAnew 1 = .ok (.getfield 21, 3) := by decide +kernel
theorem dX5_startAnew_4 : decode cX5_startAnew 4 = .ok (.invokevirtual 198, 3) := by decide +kernel
theorem dX5_startAnew_7 : decode cX5_startAnew 7 = .ok (.aload_n 0, 1) := by decide +kernel
theorem dX5_startAnew_8 : decode cX5_startAnew 8 = .ok (.getfield 39, 3) := by decide +kernel
theorem dX5_startAnew_11 : decode cX5_startAnew 11 = .ok (.iconst 0, 1) := by decide +kernel
theorem dX5_startAnew_12 : decode cX5_startAnew 12 = .ok (.putfield 115, 3) := by decide +kernel
theorem dX5_startAnew_15 : decode cX5_startAnew 15 = .ok (.iconst 0, 1) := by decide +kernel
theorem dX5_startAnew_16 : decode cX5_startAnew 16 = .ok (.istore_n 1, 1) := by decide +kernel
theorem dX5_startAnew_17 : decode cX5_startAnew 17 = .ok (.iload_n 1, 1) := by decide +kernel
theorem dX5_startAnew_18 : decode cX5_startAnew 18 = .ok (.bipush 24, 2) := by decide +kernel
theorem dX5_startAnew_20 : decode cX5_startAnew 20 = .ok (.if_icmp .ge 38, 3) := by decide +kernel
theorem dX5_startAnew_23 : decode cX5_startAnew 23 = .ok (.aload_n 0, 1) := by decide +kernel
theorem dX5_startAnew_24 : decode cX5_startAnew 24 = .ok (.getfield 50, 3) := by decide +kernel
theorem dX5_startAnew_27 : decode cX5_startAnew 27 = .ok (.iload_n 1, 1) := by decide +kernel
theorem dX5_startAnew_28 : decode cX5_startAnew 28 = .ok (.aload_n 0, 1) := by decide +kernel
theorem dX5_startAnew_29 : decode cX5_startAnew 29 = .ok (.getfield 21, 3) := by decide +kernel
theorem dX5_startAnew_32 : decode cX5_startAnew 32 = .ok (.getfield 101, 3) := by decide +kernel
theorem dX5_startAnew_35 : decode cX5_startAnew 35 = .ok (.ifCond .eq 15, 3) := by decide +kernel
theorem dX5_startAnew_38 : decode cX5_startAnew 38 = .ok (.aload_n 0, 1) := by decide +kernel
theorem dX5_startAnew_39 : decode cX5_startAnew 39 = .ok (.getfield 21, 3) := by decide +kernel
theorem dX5_startAnew_42 : decode cX5_startAnew 42 = .ok (.getfield 108, 3) := by decide +kernel
theorem dX5_startAnew_45 : decode cX5_startAnew 45 = .ok (.iload_n 1, 1) := by decide +kernel
theorem dX5_startAnew_46 : decode cX5_startAnew 46 = .ok (.iaload, 1) := by decide +kernel
theorem dX5_startAnew_47 : decode cX5_startAnew 47 = .ok (.goto 4, 3) := by decide +kernel
theorem dX5_startAnew_50 : decode cX5_startAnew 50 = .ok (.iconst 0, 1) := by decide +kernel
theorem dX5_startAnew_51 : decode cX5_startAnew 51 = .ok (.iastore, 1) := by decide +kernel
theorem dX5_startAnew_52 : decode cX5_startAnew 52 = .ok (.iinc 1 1, 3) := by decide +kernel
theorem dX5_startAnew_55 : decode cX5_startAnew 55 = .ok (.goto (-38), 3) := by decide +kernel
theorem dX5_startAnew_58 : decode cX5_startAnew 58 = .ok (.return_, 1) := by decide +kernel
def rX5_startAnew : Room := { frames := 3, cells := 0, slots := 0, locals := 66 }
theorem yk_X5_startAnew : YK yX5_startAnew cX5_startAnew 2 none 0 := ⟨xim_X5_startAnew, xse_X5_startAnew, xin_X5, xco_X5_startAnew, by decide +kernel⟩
set_option maxRecDepth 4000 in
theorem c_X5_startAnew {l : Launch} {D : va_G} {t : Nat → ClassId} {a : Nat → Nat} {I : Nat → Int32} {F : Nat → Nat → Int32} {L : Nat → Int64} {K : Cfg} (hK : CFG K I F) (hW : WFK K) (sd : Int32) (hsd : I 10 = sd) : CT l D t yX5_startAnew cX5_startAnew 2 none rX5_startAnew 0 0 [.ref (a 0)] (WX a t I F L) (VP (fun w => ∃ (I' : Nat → Int32) (F' : Nat → Nat → Int32), w = WX a t I' F' L ∧ RX (freshA K sd) I' F')) := by
  refine CT.of (by decide +kernel) (by simp [lg_sl, Value.category]) (fun X C hR => ?_)
  refine xlocals (lv' := [(0, .ref (a 0))]) rfl ?_
  have fn24 := hW.n24; have fm60 := hW.m60; have fk2 := hW.k2; have fu1 := hW.u1; have fu9 := hW.u9; have fv1 := hW.v1; have fv9 := hW.v9
  refine xaload_n C 0 rfl dX5_startAnew_0 ?_
  refine gX5_21 C dX5_startAnew_1 ?_
  refine xcVV C (c_X2_settle hK hW) yk_X2_settle 2 rfl rfl xml_X5_198 ⟨⟨Nat.le_of_ble_eq_true rfl, Nat.le_of_ble_eq_true rfl⟩, ⟨rfl, rfl⟩, ⟨Nat.zero_le _, Nat.zero_le _⟩⟩ rfl (Nat.le_of_ble_eq_true rfl) dX5_startAnew_4 (fun wE hE => ?_)
  obtain ⟨IB, FB, rfl, hIB, hgB, hXB, hHB, hLB⟩ := hE
  have hKB : CFG K IB FB := hK.of (fun q hq => hIB q (by omega)) (fun q hq => hXB q (by omega) (by omega))
  refine xaload_n C 0 rfl dX5_startAnew_7 ?_
  refine gX5_39 C dX5_startAnew_8 ?_
  refine xiconst (v := nI 0) C dX5_startAnew_11 (by decide) ?_
  refine pX5_115 C (by decide +kernel) (by decide +kernel) dX5_startAnew_12 ?_
  obtain ⟨IC, eIC⟩ : ∃ z : Nat → Int32, z = va_up IB 9 (nI 0) := ⟨_, rfl⟩
  refine xworld (ws' := WX a t IC FB L) (by rw [eIC]) ?_
  have hKC : CFG K IC FB := by rw [eIC]; exact hKB.upI (by omega) _
  have hgC : IC 5 = nI (bn (GoodP K)) := by rw [eIC, va_up_ne _ _ (by decide)]; exact hgB
  refine xiconst (v := nI 0) C dX5_startAnew_15 (by decide) ?_
  refine xistore_n (lv' := [(1, .int (nI 0)), (0, .ref (a 0))]) C dX5_startAnew_16 (by decide) rfl ?_
  have LP17 : ∀ (fu17 : Nat) (i : Nat) (FA : Nat → Nat → Int32) (hi : i ≤ 24) (hXA : (∀ q, q ≠ 12 → FA q = FB q)) (hA : ∀ x, x < i → FA 12 x = if bn (GoodP K) = 0 then nI 0 else FB 7 x), 24 - i < fu17 → XW X 0 0 (WX a t IC FA L) [(0, .ref (a 0)), (1, .int (nI i))] 17 [] := by
    intro fu17
    induction fu17 with
    | zero => intro i FA hi hXA hA hm17; exact absurd hm17 (Nat.not_lt_zero _)
    | succ fu17 ih17 =>
      intro i FA hi hXA hA hm17
      refine xiload_n C 1 rfl dX5_startAnew_17 ?_
      refine xbipush (v := nI 24) C dX5_startAnew_18 (by decide) ?_
      refine xicmp_geN C 58 dX5_startAnew_20 (by decide) (by omega) (by omega) (fun h20 => ?_) (fun h20 => ?_)
      ·
        exact xvret C hR dX5_startAnew_58 (⟨rfl, IC, FA, rfl, startAnew_end hW hKC (by rw [eIC, va_up_ne _ _ (by decide), hIB 10 (by decide)]; exact hsd) (by rw [eIC, va_up_self]) hgC hHB hLB hXA (fun x hx => hA x (by have := hW.n24; omega))⟩)
      ·
        refine xaload_n C 0 rfl dX5_startAnew_23 ?_
        refine gX5_50 C dX5_startAnew_24 ?_
        refine xiload_n C 1 rfl dX5_startAnew_27 ?_
        refine xaload_n C 0 rfl dX5_startAnew_28 ?_
        refine gX5_21 C dX5_startAnew_29 ?_
        refine gX5_101 C dX5_startAnew_32 ?_
        refine xtopi (y := nI (bn (GoodP K))) (hgC) ?_
        refine xif_eqN C 50 dX5_startAnew_35 (by decide) (bn_lt _) (fun h35 => ?_) (fun h35 => ?_)
        ·
          refine xiconst (v := nI 0) C dX5_startAnew_50 (by decide) ?_
          refine xtopi (y := (if bn (GoodP K) = 0 then nI 0 else FB 7 i)) (by rw [if_pos h35]) ?_
          refine xs_st C 12 (by omega) (by omega) i (by omega) dX5_startAnew_51 ?_
          obtain ⟨FC, eFC⟩ : ∃ z : Nat → Nat → Int32, z = va_up FA 12 (upd (FA 12) i (if bn (GoodP K) = 0 then nI 0 else FB 7 i)) := ⟨_, rfl⟩
          refine xworld (ws' := WX a t IC FC L) (by rw [eFC]) ?_
          refine xiincN (lv' := [(1, .int (nI (i + 1))), (0, .ref (a 0))]) C 1 rfl dX5_startAnew_52 (by decide) rfl ?_
          refine xgoto C 17 dX5_startAnew_55 (by decide) ?_
          refine xsub [1, 0] rfl ?_
          exact ih17 (i + 1) FC (by omega) (fun q hq => by rw [eFC, va_up_ne _ _ hq]; exact hXA q hq) (fun x hx => by rw [eFC, va_up_self]; unfold upd; by_cases e : x = i; (rw [e, if_pos rfl]); (rw [if_neg e]; exact hA x (by omega))) (by omega)
        ·
          refine xaload_n C 0 rfl dX5_startAnew_38 ?_
          refine gX5_21 C dX5_startAnew_39 ?_
          refine gX5_108 C dX5_startAnew_42 ?_
          refine xiload_n C 1 rfl dX5_startAnew_45 ?_
          refine xa_raw C 7 (by omega) i (show _ < 24 by omega) dX5_startAnew_46 ?_
          refine xgoto C 51 dX5_startAnew_47 (by decide) ?_
          refine xtopi (y := (if bn (GoodP K) = 0 then nI 0 else FB 7 i)) (by rw [if_neg h35, hXA 7 (by decide)]) ?_
          refine xs_st C 12 (by omega) (by omega) i (by omega) dX5_startAnew_51 ?_
          obtain ⟨FC, eFC⟩ : ∃ z : Nat → Nat → Int32, z = va_up FA 12 (upd (FA 12) i (if bn (GoodP K) = 0 then nI 0 else FB 7 i)) := ⟨_, rfl⟩
          refine xworld (ws' := WX a t IC FC L) (by rw [eFC]) ?_
          refine xiincN (lv' := [(1, .int (nI (i + 1))), (0, .ref (a 0))]) C 1 rfl dX5_startAnew_52 (by decide) rfl ?_
          refine xgoto C 17 dX5_startAnew_55 (by decide) ?_
          refine xsub [1, 0] rfl ?_
          exact ih17 (i + 1) FC (by omega) (fun q hq => by rw [eFC, va_up_ne _ _ hq]; exact hXA q hq) (fun x hx => by rw [eFC, va_up_self]; unfold upd; by_cases e : x = i; (rw [e, if_pos rfl]); (rw [if_neg e]; exact hA x (by omega))) (by omega)
  refine xsub [1, 0] rfl ?_
  exact LP17 _ 0 FB (by omega) (fun _ _ => rfl) (fun x h => absurd h (Nat.not_lt_zero _)) (Nat.lt_succ_self _)
theorem dX5_place_0 : decode cX5_place 0 = .ok (.iload_n 1, 1) := by decide +kernel
theorem dX5_place_1 : decode cX5_place 1 = .ok (.iconst 1, 1) := by decide +kernel
theorem dX5_place_2 : decode cX5_place 2 = .ok (.if_icmp .lt 17, 3) := by decide +kernel
theorem dX5_place_5 : decode cX5_place 5 = .ok (.iload_n 1, 1) := by decide +kernel
theorem dX5_place_6 : decode cX5_place 6 = .ok (.iconst 5, 1) := by decide +kernel
theorem dX5_place_7 : decode cX5_place 7 = .ok (.if_icmp .gt 12, 3) := by decide +kernel
theorem dX5_place_10 : decode cX5_place 10 = .ok (.iload_n 2, 1) := by decide +kernel
theorem dX5_place_11 : decode cX5_place 11 = .ok (.ifCond .lt 8, 3) := by decide +kernel
theorem dX5_place_14 : decode cX5_place 14 = .ok (.iload_n 2, 1) := by decide +kernel
theorem dX5_place_15 : decode cX5_place 15 = .ok (.iconst 1, 1) := by decide +kernel
theorem dX5_place_16 : decode cX5_place 16 = .ok (.if_icmp .le 6, 3) := by decide +kernel
theorem dX5_place_19 : decode cX5_place 19 = .ok (.bipush (-2), 2) := by decide +kernel
theorem dX5_place_21 : decode cX5_place 21 = .ok (.ireturn, 1) := by decide +kernel
theorem dX5_place_22 : decode cX5_place 22 = .ok (.aload_n 0, 1) := by decide +kernel
theorem dX5_place_23 : decode cX5_place 23 = .ok (.getfield 10, 3) := by decide +kernel
theorem dX5_place_26 : decode cX5_place 26 = .ok (.getfield 58, 3) := by decide +kernel
theorem dX5_place_29 : decode cX5_place 29 = .ok (.bipush 24, 2) := by decide +kernel
theorem dX5_place_31 : decode cX5_place 31 = .ok (.if_icmp .lt 6, 3) := by decide +kernel
theorem dX5_place_34 : decode cX5_place 34 = .ok (.bipush (-4), 2) := by decide +kernel
theorem dX5_place_36 : decode cX5_place 36 = .ok (.ireturn, 1) := by decide +kernel
theorem dX5_place_37 : decode cX5_place 37 = .ok (.aload_n 0, 1) := by decide +kernel
theorem dX5_place_38 : decode cX5_place 38 = .ok (.getfield 10, 3) := by decide +kernel
theorem dX5_place_41 : decode cX5_place 41 = .ok (.iload_n 1, 1) := by decide +kernel
theorem dX5_place_42 : decode cX5_place 42 = .ok (.iload_n 2, 1) := by decide +kernel
theorem dX5_place_43 : decode cX5_place 43 = .ok (.invokevirtual 61, 3) := by decide +kernel
theorem dX5_place_46 : decode cX5_place 46 = .ok (.istore_n 3, 1) := by decide +kernel
theorem dX5_place_47 : decode cX5_place 47 = .ok (.aload_n 0, 1) := by decide +kernel
theorem dX5_place_48 : decode cX5_place 48 = .ok (.invokevirtual 65, 3) := by decide +kernel
theorem dX5_place_51 : decode cX5_place 51 = .ok (.iload_n 3, 1) := by decide +kernel
theorem dX5_place_52 : decode cX5_place 52 = .ok (.ireturn, 1) := by decide +kernel
def rX5_place : Room := { frames := 4, cells := 0, slots := 0, locals := 87 }
theorem yk_X5_place : YK yX5_place cX5_place 4 (some .int) 2 := ⟨xim_X5_place, xse_X5_place, xin_X5, xco_X5_place, by decide +kernel⟩
set_option maxRecDepth 4000 in
theorem c_X5_place {l : Launch} {D : va_G} {t : Nat → ClassId} {a : Nat → Nat} {I : Nat → Int32} {F : Nat → Nat → Int32} {L : Nat → Int64} {K : Cfg} {sd : Int32} {hd : Nat → Nat} {dk : Bool} {dw : Nat → Nat} {mt : Int32} (hI : INV (K, sd, hd, dk, dw, mt)) (hX : RX (K, sd, hd, dk, dw, mt) I F) (x y : Int32) : CT l D t yX5_place cX5_place 4 (some .int) rX5_place 0 0 [.ref (a 0), .int x, .int y] (WX a t I F L) (XO a t (opPlace (K, sd, hd, dk, dw, mt) x y)) := by
  refine CT.of (by decide +kernel) (by simp [lg_sl, Value.category]) (fun X C hR => ?_)
  refine xlocals (lv' := [(0, .ref (a 0)), (1, .int x), (2, .int y)]) rfl ?_
  obtain ⟨hK, hsd, hHd, hdk, hdr, hgd, hHS, hLS⟩ := id hX
  have hW : WFK K := hI.1
  have hrg := hI.2.1
  have fn24 := hW.n24; have fm60 := hW.m60; have fk2 := hW.k2; have fu1 := hW.u1; have fu9 := hW.u9; have fv1 := hW.v1; have fv9 := hW.v9
  refine xiload_n C 1 rfl dX5_place_0 ?_
  refine xiconst (v := 1) C dX5_place_1 (by decide) ?_
  refine xicmp_lt C 19 dX5_place_2 (by decide) (fun h2 => ?_) (fun h2 => ?_)
  ·
    refine xbipush (v := -2) C dX5_place_19 (by decide) ?_
    exact xret C hR (rfl) dX5_place_21 (XO.mk (by simp only [opPlace]; rw [ci_t (Or.inl h2)]) hX)
  ·
    refine xiload_n C 1 rfl dX5_place_5 ?_
    refine xiconst (v := 5) C dX5_place_6 (by decide) ?_
    refine xicmp_gt C 19 dX5_place_7 (by decide) (fun h7 => ?_) (fun h7 => ?_)
    ·
      refine xbipush (v := -2) C dX5_place_19 (by decide) ?_
      exact xret C hR (rfl) dX5_place_21 (XO.mk (by simp only [opPlace]; rw [ci_t (Or.inr (Or.inl h7))]) hX)
    ·
      refine xiload_n C 2 rfl dX5_place_10 ?_
      refine xif_lt C 19 dX5_place_11 (by decide) (fun h11 => ?_) (fun h11 => ?_)
      ·
        refine xbipush (v := -2) C dX5_place_19 (by decide) ?_
        exact xret C hR (rfl) dX5_place_21 (XO.mk (by simp only [opPlace]; rw [ci_t (Or.inr (Or.inr (Or.inl h11)))]) hX)
      ·
        refine xiload_n C 2 rfl dX5_place_14 ?_
        refine xiconst (v := 1) C dX5_place_15 (by decide) ?_
        refine xicmp_le C 22 dX5_place_16 (by decide) (fun h16 => ?_) (fun h16 => ?_)
        ·
          obtain ⟨p, hp1, hp5, rfl⟩ := box15 h2 h7
          obtain ⟨q, hq1, rfl⟩ := box01 h11 (Int32.not_lt.mpr h16)
          refine xaload_n C 0 rfl dX5_place_22 ?_
          refine gX5_10 C dX5_place_23 ?_
          refine gX5_58K C hK dX5_place_26 ?_
          refine xbipush (v := nI 24) C dX5_place_29 (by decide) ?_
          refine xicmp_ltN C 37 dX5_place_31 (by decide) (by omega) (by omega) (fun h31 => ?_) (fun h31 => ?_)
          ·
            refine xaload_n C 0 rfl dX5_place_37 ?_
            refine gX5_10 C dX5_place_38 ?_
            refine xiload_n C 1 rfl dX5_place_41 ?_
            refine xiload_n C 2 rfl dX5_place_42 ?_
            refine xcVE C (c_X1_addPlace hK hW (by omega) p q (by omega) (by omega)) yk_X1_addPlace 1 rfl rfl xml_X5_61 ⟨⟨Nat.le_of_ble_eq_true rfl, Nat.le_of_ble_eq_true rfl⟩, ⟨rfl, rfl⟩, ⟨Nat.zero_le _, Nat.zero_le _⟩⟩ rfl (Nat.le_of_ble_eq_true rfl) dX5_place_43 (fun vE wE hE => ?_)
            obtain ⟨rfl, IA, FA, rfl, hKA, hFA, hIA⟩ := hE
            refine xistore_n (lv' := [(3, .int (nI (kn K))), (0, .ref (a 0)), (1, .int (nI p)), (2, .int (nI q))]) C dX5_place_46 (by decide) rfl ?_
            refine xaload_n C 1 rfl dX5_place_47 ?_
            refine xcVV C (c_X5_startAnew hKA (hW.addP hp1 hp5 hq1 (by omega)) sd (by rw [hIA 10 (by decide)]; exact hsd)) yk_X5_startAnew 0 rfl rfl xml_X5_65 ⟨⟨Nat.le_of_ble_eq_true rfl, Nat.le_of_ble_eq_true rfl⟩, ⟨rfl, rfl⟩, ⟨Nat.zero_le _, Nat.zero_le _⟩⟩ rfl (Nat.le_of_ble_eq_true rfl) dX5_place_48 (fun wE hE => ?_)
            obtain ⟨IS, FS, rfl, hRS⟩ := hE
            refine xiload_n C 0 rfl dX5_place_51 ?_
            exact xret C hR (rfl) dX5_place_52 (XO.mk (by simp only [opPlace]; rw [ci_f (fun q => q.elim h2 (fun q => q.elim h7 (fun q => q.elim h11 (fun q => absurd q (Int32.not_lt.mpr h16))))), ci_f (by omega), show cl (nI p) = p from nI_clamp (by omega), show cl (nI q) = q from nI_clamp (by omega)]) hRS)
          ·
            refine xbipush (v := -4) C dX5_place_34 (by decide) ?_
            exact xret C hR (rfl) dX5_place_36 (XO.mk (by simp only [opPlace]; rw [ci_f (fun q => q.elim h2 (fun q => q.elim h7 (fun q => q.elim h11 (fun q => absurd q (Int32.not_lt.mpr h16))))), ci_t h31]) hX)
        ·
          refine xbipush (v := -2) C dX5_place_19 (by decide) ?_
          exact xret C hR (rfl) dX5_place_21 (XO.mk (by simp only [opPlace]; rw [ci_t (Or.inr (Or.inr (Or.inr (Int32.not_le.mp h16))))]) hX)
theorem dX5_link_0 : decode cX5_link 0 = .ok (.aload_n 0, 1) := by decide +kernel
theorem dX5_link_1 : decode cX5_link 1 = .ok (.getfield 10, 3) := by decide +kernel
theorem dX5_link_4 : decode cX5_link 4 = .ok (.iload_n 1, 1) := by decide +kernel
theorem dX5_link_5 : decode cX5_link 5 = .ok (.invokevirtual 68, 3) := by decide +kernel
theorem dX5_link_8 : decode cX5_link 8 = .ok (.ifCond .eq 14, 3) := by decide +kernel
theorem dX5_link_11 : decode cX5_link 11 = .ok (.aload_n 0, 1) := by decide +kernel
theorem dX5_link_12 : decode cX5_link 12 = .ok (.getfield 10, 3) := by decide +kernel
theorem dX5_link_15 : decode cX5_link 15 = .ok (.iload_n 2, 1) := by decide +kernel
theorem dX5_link_16 : decode cX5_link 16 = .ok (.invokevirtual 68, 3) := by decide +kernel
theorem dX5_link_19 : decode cX5_link 19 = .ok (.ifCond .ne 5, 3) := by decide +kernel
theorem dX5_link_22 : decode cX5_link 22 = .ok (.iconst (-1), 1) := by decide +kernel
theorem dX5_link_23 : decode cX5_link 23 = .ok (.ireturn, 1) := by decide +kernel
theorem dX5_link_24 : decode cX5_link 24 = .ok (.aload_n 0, 1) := by decide +kernel
theorem dX5_link_25 : decode cX5_link 25 = .ok (.getfield 10, 3) := by decide +kernel
theorem dX5_link_28 : decode cX5_link 28 = .ok (.getfield 72, 3) := by decide +kernel
theorem dX5_link_31 : decode cX5_link 31 = .ok (.bipush 60, 2) := by decide +kernel
theorem dX5_link_33 : decode cX5_link 33 = .ok (.if_icmp .ge 25, 3) := by decide +kernel
theorem dX5_link_36 : decode cX5_link 36 = .ok (.aload_n 0, 1) := by decide +kernel
theorem dX5_link_37 : decode cX5_link 37 = .ok (.getfield 10, 3) := by decide +kernel
theorem dX5_link_40 : decode cX5_link 40 = .ok (.iload_n 1, 1) := by decide +kernel
theorem dX5_link_41 : decode cX5_link 41 = .ok (.invokevirtual 75, 3) := by decide +kernel
theorem dX5_link_44 : decode cX5_link 44 = .ok (.ifCond .ne 14, 3) := by decide +kernel
theorem dX5_link_47 : decode cX5_link 47 = .ok (.aload_n 0, 1) := by decide +kernel
theorem dX5_link_48 : decode cX5_link 48 = .ok (.getfield 10, 3) := by decide +kernel
theorem dX5_link_51 : decode cX5_link 51 = .ok (.iload_n 2, 1) := by decide +kernel
theorem dX5_link_52 : decode cX5_link 52 = .ok (.invokevirtual 75, 3) := by decide +kernel
theorem dX5_link_55 : decode cX5_link 55 = .ok (.ifCond .eq 6, 3) := by decide +kernel
theorem dX5_link_58 : decode cX5_link 58 = .ok (.bipush (-4), 2) := by decide +kernel
theorem dX5_link_60 : decode cX5_link 60 = .ok (.ireturn, 1) := by decide +kernel
theorem dX5_link_61 : decode cX5_link 61 = .ok (.iload_n 1, 1) := by decide +kernel
theorem dX5_link_62 : decode cX5_link 62 = .ok (.iload_n 2, 1) := by decide +kernel
theorem dX5_link_63 : decode cX5_link 63 = .ok (.if_icmp .eq 15, 3) := by decide +kernel
theorem dX5_link_66 : decode cX5_link 66 = .ok (.aload_n 0, 1) := by decide +kernel
theorem dX5_link_67 : decode cX5_link 67 = .ok (.getfield 10, 3) := by decide +kernel
theorem dX5_link_70 : decode cX5_link 70 = .ok (.iload_n 1, 1) := by decide +kernel
theorem dX5_link_71 : decode cX5_link 71 = .ok (.iload_n 2, 1) := by decide +kernel
theorem dX5_link_72 : decode cX5_link 72 = .ok (.invokevirtual 78, 3) := by decide +kernel
theorem dX5_link_75 : decode cX5_link 75 = .ok (.ifCond .eq 6, 3) := by decide +kernel
theorem dX5_link_78 : decode cX5_link 78 = .ok (.bipush (-5), 2) := by decide +kernel
theorem dX5_link_80 : decode cX5_link 80 = .ok (.ireturn, 1) := by decide +kernel
theorem dX5_link_81 : decode cX5_link 81 = .ok (.aload_n 0, 1) := by decide +kernel
theorem dX5_link_82 : decode cX5_link 82 = .ok (.getfield 10, 3) := by decide +kernel
theorem dX5_link_85 : decode cX5_link 85 = .ok (.iload_n 1, 1) := by decide +kernel
theorem dX5_link_86 : decode cX5_link 86 = .ok (.iload_n 2, 1) := by decide +kernel
theorem dX5_link_87 : decode cX5_link 87 = .ok (.invokevirtual 82, 3) := by decide +kernel
theorem dX5_link_90 : decode cX5_link 90 = .ok (.aload_n 0, 1) := by decide +kernel
theorem dX5_link_91 : decode cX5_link 91 = .ok (.invokevirtual 65, 3) := by decide +kernel
theorem dX5_link_94 : decode cX5_link 94 = .ok (.aload_n 0, 1) := by decide +kernel
theorem dX5_link_95 : decode cX5_link 95 = .ok (.getfield 10, 3) := by decide +kernel
theorem dX5_link_98 : decode cX5_link 98 = .ok (.getfield 72, 3) := by decide +kernel
theorem dX5_link_101 : decode cX5_link 101 = .ok (.ireturn, 1) := by decide +kernel
def rX5_link : Room := { frames := 4, cells := 0, slots := 0, locals := 87 }
theorem yk_X5_link : YK yX5_link cX5_link 3 (some .int) 2 := ⟨xim_X5_link, xse_X5_link, xin_X5, xco_X5_link, by decide +kernel⟩
set_option maxRecDepth 4000 in
theorem c_X5_link {l : Launch} {D : va_G} {t : Nat → ClassId} {a : Nat → Nat} {I : Nat → Int32} {F : Nat → Nat → Int32} {L : Nat → Int64} {K : Cfg} {sd : Int32} {hd : Nat → Nat} {dk : Bool} {dw : Nat → Nat} {mt : Int32} (hI : INV (K, sd, hd, dk, dw, mt)) (hX : RX (K, sd, hd, dk, dw, mt) I F) (x y : Int32) : CT l D t yX5_link cX5_link 3 (some .int) rX5_link 0 0 [.ref (a 0), .int x, .int y] (WX a t I F L) (XO a t (opLink (K, sd, hd, dk, dw, mt) x y)) := by
  refine CT.of (by decide +kernel) (by simp [lg_sl, Value.category]) (fun X C hR => ?_)
  refine xlocals (lv' := [(0, .ref (a 0)), (1, .int x), (2, .int y)]) rfl ?_
  obtain ⟨hK, hsd, hHd, hdk, hdr, hgd, hHS, hLS⟩ := id hX
  have hW : WFK K := hI.1
  have hrg := hI.2.1
  have fn24 := hW.n24; have fm60 := hW.m60; have fk2 := hW.k2; have fu1 := hW.u1; have fu9 := hW.u9; have fv1 := hW.v1; have fv9 := hW.v9
  refine xaload_n C 0 rfl dX5_link_0 ?_
  refine gX5_10 C dX5_link_1 ?_
  refine xiload_n C 1 rfl dX5_link_4 ?_
  refine xcVR C (c_X1_has hK hW x) yk_X1_has 1 rfl rfl xml_X5_68 ⟨⟨Nat.le_of_ble_eq_true rfl, Nat.le_of_ble_eq_true rfl⟩, ⟨rfl, rfl⟩, ⟨Nat.zero_le _, Nat.zero_le _⟩⟩ rfl (Nat.le_of_ble_eq_true rfl) dX5_link_5 ?_
  refine xif_eqN C 22 dX5_link_8 (by decide) (bn_lt _) (fun h8 => ?_) (fun h8 => ?_)
  ·
    have h8 := bn_0 h8
    refine xiconst (v := -1) C dX5_link_22 (by decide) ?_
    exact xret C hR (rfl) dX5_link_23 (XO.mk (by simp only [opLink]; rw [ci_t (Or.inl h8)]) hX)
  ·
    obtain ⟨p, hp, rfl⟩ := (bn_1 h8).nat hW
    refine xaload_n C 0 rfl dX5_link_11 ?_
    refine gX5_10 C dX5_link_12 ?_
    refine xiload_n C 2 rfl dX5_link_15 ?_
    refine xcVR C (c_X1_has hK hW y) yk_X1_has 1 rfl rfl xml_X5_68 ⟨⟨Nat.le_of_ble_eq_true rfl, Nat.le_of_ble_eq_true rfl⟩, ⟨rfl, rfl⟩, ⟨Nat.zero_le _, Nat.zero_le _⟩⟩ rfl (Nat.le_of_ble_eq_true rfl) dX5_link_16 ?_
    refine xif_neN C 24 dX5_link_19 (by decide) (bn_lt _) (fun h19 => ?_) (fun h19 => ?_)
    ·
      obtain ⟨q, hq, rfl⟩ := (bn_1 h19).nat hW
      refine xaload_n C 0 rfl dX5_link_24 ?_
      refine gX5_10 C dX5_link_25 ?_
      refine gX5_72K C hK dX5_link_28 ?_
      refine xbipush (v := nI 60) C dX5_link_31 (by decide) ?_
      refine xicmp_geN C 58 dX5_link_33 (by decide) (by omega) (by omega) (fun h33 => ?_) (fun h33 => ?_)
      ·
        refine xbipush (v := -4) C dX5_link_58 (by decide) ?_
        exact xret C hR (rfl) dX5_link_60 (XO.mk (by simp only [opLink]; rw [ci_f (fun q => q.elim (fun q => q (hasP_nat hW hp)) (fun q => q (hasP_nat hW hq))), show cl (nI p) = p from nI_clamp (by omega), show cl (nI q) = q from nI_clamp (by omega), ci_t (Or.inl h33)]) hX)
      ·
        refine xaload_n C 0 rfl dX5_link_36 ?_
        refine gX5_10 C dX5_link_37 ?_
        refine xiload_n C 1 rfl dX5_link_40 ?_
        refine xcVR C (c_X1_isCrowded hK hW p (by omega)) yk_X1_isCrowded 1 rfl rfl xml_X5_75 ⟨⟨Nat.le_of_ble_eq_true rfl, Nat.le_of_ble_eq_true rfl⟩, ⟨rfl, rfl⟩, ⟨Nat.zero_le _, Nat.zero_le _⟩⟩ rfl (Nat.le_of_ble_eq_true rfl) dX5_link_41 ?_
        refine xif_neN C 58 dX5_link_44 (by decide) (bn_lt _) (fun h44 => ?_) (fun h44 => ?_)
        ·
          have h44 := bn_1 h44
          refine xbipush (v := -4) C dX5_link_58 (by decide) ?_
          exact xret C hR (rfl) dX5_link_60 (XO.mk (by simp only [opLink]; rw [ci_f (fun q => q.elim (fun q => q (hasP_nat hW hp)) (fun q => q (hasP_nat hW hq))), show cl (nI p) = p from nI_clamp (by omega), show cl (nI q) = q from nI_clamp (by omega), ci_t (Or.inr (Or.inl h44))]) hX)
        ·
          have h44 := bn_0 h44
          refine xaload_n C 0 rfl dX5_link_47 ?_
          refine gX5_10 C dX5_link_48 ?_
          refine xiload_n C 2 rfl dX5_link_51 ?_
          refine xcVR C (c_X1_isCrowded hK hW q (by omega)) yk_X1_isCrowded 1 rfl rfl xml_X5_75 ⟨⟨Nat.le_of_ble_eq_true rfl, Nat.le_of_ble_eq_true rfl⟩, ⟨rfl, rfl⟩, ⟨Nat.zero_le _, Nat.zero_le _⟩⟩ rfl (Nat.le_of_ble_eq_true rfl) dX5_link_52 ?_
          refine xif_eqN C 61 dX5_link_55 (by decide) (bn_lt _) (fun h55 => ?_) (fun h55 => ?_)
          ·
            have h55 := bn_0 h55
            refine xiload_n C 1 rfl dX5_link_61 ?_
            refine xiload_n C 2 rfl dX5_link_62 ?_
            refine xicmp_eqN C 78 dX5_link_63 (by decide) (by omega) (by omega) (fun h63 => ?_) (fun h63 => ?_)
            ·
              refine xbipush (v := -5) C dX5_link_78 (by decide) ?_
              exact xret C hR (rfl) dX5_link_80 (XO.mk (by simp only [opLink]; rw [ci_f (fun q => q.elim (fun q => q (hasP_nat hW hp)) (fun q => q (hasP_nat hW hq))), show cl (nI p) = p from nI_clamp (by omega), show cl (nI q) = q from nI_clamp (by omega), ci_f (fun q => q.elim (by omega) (fun q => q.elim h44 h55)), ci_t (Or.inl (by rw [h63]))]) hX)
            ·
              refine xaload_n C 0 rfl dX5_link_66 ?_
              refine gX5_10 C dX5_link_67 ?_
              refine xiload_n C 1 rfl dX5_link_70 ?_
              refine xiload_n C 2 rfl dX5_link_71 ?_
              refine xcVR C (c_X1_areLinked hK hW p (by omega) q (by omega)) yk_X1_areLinked 1 rfl rfl xml_X5_78 ⟨⟨Nat.le_of_ble_eq_true rfl, Nat.le_of_ble_eq_true rfl⟩, ⟨rfl, rfl⟩, ⟨Nat.zero_le _, Nat.zero_le _⟩⟩ rfl (Nat.le_of_ble_eq_true rfl) dX5_link_72 ?_
              refine xif_eqN C 81 dX5_link_75 (by decide) (bn_lt _) (fun h75 => ?_) (fun h75 => ?_)
              ·
                have h75 := bn_0 h75
                refine xaload_n C 0 rfl dX5_link_81 ?_
                refine gX5_10 C dX5_link_82 ?_
                refine xiload_n C 1 rfl dX5_link_85 ?_
                refine xiload_n C 2 rfl dX5_link_86 ?_
                refine xcVV C (c_X1_addLink hK hW (by omega) p q (by omega) (by omega) h63 (by omega) (by omega)) yk_X1_addLink 1 rfl rfl xml_X5_82 ⟨⟨Nat.le_of_ble_eq_true rfl, Nat.le_of_ble_eq_true rfl⟩, ⟨rfl, rfl⟩, ⟨Nat.zero_le _, Nat.zero_le _⟩⟩ rfl (Nat.le_of_ble_eq_true rfl) dX5_link_87 (fun wE hE => ?_)
                obtain ⟨IA, FA, rfl, hKA, hFA, hIA⟩ := hE
                refine xaload_n C 0 rfl dX5_link_90 ?_
                refine xcVV C (c_X5_startAnew hKA (hW.addL (by omega) hp hq h63 (by omega) (by omega)) sd (by rw [hIA 10 (by decide)]; exact hsd)) yk_X5_startAnew 0 rfl rfl xml_X5_65 ⟨⟨Nat.le_of_ble_eq_true rfl, Nat.le_of_ble_eq_true rfl⟩, ⟨rfl, rfl⟩, ⟨Nat.zero_le _, Nat.zero_le _⟩⟩ rfl (Nat.le_of_ble_eq_true rfl) dX5_link_91 (fun wE hE => ?_)
                obtain ⟨IS, FS, rfl, hRS⟩ := hE
                refine xaload_n C 0 rfl dX5_link_94 ?_
                refine gX5_10 C dX5_link_95 ?_
                refine gX5_72 C dX5_link_98 ?_
                refine xtopi (y := nI (km K + 1)) (hRS.1.m) ?_
                exact xret C hR (rfl) dX5_link_101 (XO.mk (by simp only [opLink]; rw [ci_f (fun q => q.elim (fun q => q (hasP_nat hW hp)) (fun q => q (hasP_nat hW hq))), show cl (nI p) = p from nI_clamp (by omega), show cl (nI q) = q from nI_clamp (by omega), ci_f (fun q => q.elim (by omega) (fun q => q.elim h44 h55)), ci_f (fun q => q.elim (fun q => h63 ((nI_eq (by omega) (by omega)).mp q)) h75)]) hRS)
              ·
                have h75 := bn_1 h75
                refine xbipush (v := -5) C dX5_link_78 (by decide) ?_
                exact xret C hR (rfl) dX5_link_80 (XO.mk (by simp only [opLink]; rw [ci_f (fun q => q.elim (fun q => q (hasP_nat hW hp)) (fun q => q (hasP_nat hW hq))), show cl (nI p) = p from nI_clamp (by omega), show cl (nI q) = q from nI_clamp (by omega), ci_f (fun q => q.elim (by omega) (fun q => q.elim h44 h55)), ci_t (Or.inr h75)]) hX)
          ·
            have h55 := bn_1 h55
            refine xbipush (v := -4) C dX5_link_58 (by decide) ?_
            exact xret C hR (rfl) dX5_link_60 (XO.mk (by simp only [opLink]; rw [ci_f (fun q => q.elim (fun q => q (hasP_nat hW hp)) (fun q => q (hasP_nat hW hq))), show cl (nI p) = p from nI_clamp (by omega), show cl (nI q) = q from nI_clamp (by omega), ci_t (Or.inr (Or.inr h55))]) hX)
    ·
      have h19 := bn_0 h19
      refine xiconst (v := -1) C dX5_link_22 (by decide) ?_
      exact xret C hR (rfl) dX5_link_23 (XO.mk (by simp only [opLink]; rw [ci_t (Or.inr h19)]) hX)
theorem dX5_kind_0 : decode cX5_kind 0 = .ok (.iload_n 1, 1) := by decide +kernel
theorem dX5_kind_1 : decode cX5_kind 1 = .ok (.ifCond .lt 30, 3) := by decide +kernel
theorem dX5_kind_4 : decode cX5_kind 4 = .ok (.iload_n 1, 1) := by decide +kernel
theorem dX5_kind_5 : decode cX5_kind 5 = .ok (.iconst 2, 1) := by decide +kernel
theorem dX5_kind_6 : decode cX5_kind 6 = .ok (.if_icmp .gt 25, 3) := by decide +kernel
theorem dX5_kind_9 : decode cX5_kind 9 = .ok (.iload_n 2, 1) := by decide +kernel
theorem dX5_kind_10 : decode cX5_kind 10 = .ok (.iconst 1, 1) := by decide +kernel
theorem dX5_kind_11 : decode cX5_kind 11 = .ok (.if_icmp .lt 20, 3) := by decide +kernel
theorem dX5_kind_14 : decode cX5_kind 14 = .ok (.iload_n 2, 1) := by decide +kernel
theorem dX5_kind_15 : decode cX5_kind 15 = .ok (.bipush 9, 2) := by decide +kernel
theorem dX5_kind_17 : decode cX5_kind 17 = .ok (.if_icmp .gt 14, 3) := by decide +kernel
theorem dX5_kind_20 : decode cX5_kind 20 = .ok (.iload_n 3, 1) := by decide +kernel
theorem dX5_kind_21 : decode cX5_kind 21 = .ok (.iconst 1, 1) := by decide +kernel
theorem dX5_kind_22 : decode cX5_kind 22 = .ok (.if_icmp .lt 9, 3) := by decide +kernel
theorem dX5_kind_25 : decode cX5_kind 25 = .ok (.iload_n 3, 1) := by decide +kernel
theorem dX5_kind_26 : decode cX5_kind 26 = .ok (.bipush 9, 2) := by decide +kernel
theorem dX5_kind_28 : decode cX5_kind 28 = .ok (.if_icmp .le 6, 3) := by decide +kernel
theorem dX5_kind_31 : decode cX5_kind 31 = .ok (.bipush (-2), 2) := by decide +kernel
theorem dX5_kind_33 : decode cX5_kind 33 = .ok (.ireturn, 1) := by decide +kernel
theorem dX5_kind_34 : decode cX5_kind 34 = .ok (.aload_n 0, 1) := by decide +kernel
theorem dX5_kind_35 : decode cX5_kind 35 = .ok (.getfield 21, 3) := by decide +kernel
theorem dX5_kind_38 : decode cX5_kind 38 = .ok (.iload_n 1, 1) := by decide +kernel
theorem dX5_kind_39 : decode cX5_kind 39 = .ok (.putfield 86, 3) := by decide +kernel
theorem dX5_kind_42 : decode cX5_kind 42 = .ok (.aload_n 0, 1) := by decide +kernel
theorem dX5_kind_43 : decode cX5_kind 43 = .ok (.getfield 21, 3) := by decide +kernel
theorem dX5_kind_46 : decode cX5_kind 46 = .ok (.iload_n 2, 1) := by decide +kernel
theorem dX5_kind_47 : decode cX5_kind 47 = .ok (.putfield 89, 3) := by decide +kernel
theorem dX5_kind_50 : decode cX5_kind 50 = .ok (.aload_n 0, 1) := by decide +kernel
theorem dX5_kind_51 : decode cX5_kind 51 = .ok (.getfield 21, 3) := by decide +kernel
theorem dX5_kind_54 : decode cX5_kind 54 = .ok (.iload_n 3, 1) := by decide +kernel
theorem dX5_kind_55 : decode cX5_kind 55 = .ok (.putfield 92, 3) := by decide +kernel
theorem dX5_kind_58 : decode cX5_kind 58 = .ok (.aload_n 0, 1) := by decide +kernel
theorem dX5_kind_59 : decode cX5_kind 59 = .ok (.invokevirtual 65, 3) := by decide +kernel
theorem dX5_kind_62 : decode cX5_kind 62 = .ok (.iconst 1, 1) := by decide +kernel
theorem dX5_kind_63 : decode cX5_kind 63 = .ok (.ireturn, 1) := by decide +kernel
def rX5_kind : Room := { frames := 4, cells := 0, slots := 0, locals := 87 }
theorem yk_X5_kind : YK yX5_kind cX5_kind 4 (some .int) 3 := ⟨xim_X5_kind, xse_X5_kind, xin_X5, xco_X5_kind, by decide +kernel⟩
set_option maxRecDepth 4000 in
theorem c_X5_kind {l : Launch} {D : va_G} {t : Nat → ClassId} {a : Nat → Nat} {I : Nat → Int32} {F : Nat → Nat → Int32} {L : Nat → Int64} {K : Cfg} {sd : Int32} {hd : Nat → Nat} {dk : Bool} {dw : Nat → Nat} {mt : Int32} (hI : INV (K, sd, hd, dk, dw, mt)) (hX : RX (K, sd, hd, dk, dw, mt) I F) (x y z : Int32) : CT l D t yX5_kind cX5_kind 4 (some .int) rX5_kind 0 0 [.ref (a 0), .int x, .int y, .int z] (WX a t I F L) (XO a t (opKind (K, sd, hd, dk, dw, mt) x y z)) := by
  refine CT.of (by decide +kernel) (by simp [lg_sl, Value.category]) (fun X C hR => ?_)
  refine xlocals (lv' := [(0, .ref (a 0)), (1, .int x), (2, .int y), (3, .int z)]) rfl ?_
  obtain ⟨hK, hsd, hHd, hdk, hdr, hgd, hHS, hLS⟩ := id hX
  have hW : WFK K := hI.1
  have hrg := hI.2.1
  have fn24 := hW.n24; have fm60 := hW.m60; have fk2 := hW.k2; have fu1 := hW.u1; have fu9 := hW.u9; have fv1 := hW.v1; have fv9 := hW.v9
  refine xiload_n C 1 rfl dX5_kind_0 ?_
  refine xif_lt C 31 dX5_kind_1 (by decide) (fun h1 => ?_) (fun h1 => ?_)
  ·
    refine xbipush (v := -2) C dX5_kind_31 (by decide) ?_
    exact xret C hR (rfl) dX5_kind_33 (XO.mk (by simp only [opKind]; rw [ci_t (Or.inl h1)]) hX)
  ·
    refine xiload_n C 1 rfl dX5_kind_4 ?_
    refine xiconst (v := 2) C dX5_kind_5 (by decide) ?_
    refine xicmp_gt C 31 dX5_kind_6 (by decide) (fun h6 => ?_) (fun h6 => ?_)
    ·
      refine xbipush (v := -2) C dX5_kind_31 (by decide) ?_
      exact xret C hR (rfl) dX5_kind_33 (XO.mk (by simp only [opKind]; rw [ci_t (Or.inr (Or.inl h6))]) hX)
    ·
      refine xiload_n C 2 rfl dX5_kind_9 ?_
      refine xiconst (v := 1) C dX5_kind_10 (by decide) ?_
      refine xicmp_lt C 31 dX5_kind_11 (by decide) (fun h11 => ?_) (fun h11 => ?_)
      ·
        refine xbipush (v := -2) C dX5_kind_31 (by decide) ?_
        exact xret C hR (rfl) dX5_kind_33 (XO.mk (by simp only [opKind]; rw [ci_t (Or.inr (Or.inr (Or.inl h11)))]) hX)
      ·
        refine xiload_n C 2 rfl dX5_kind_14 ?_
        refine xbipush (v := 9) C dX5_kind_15 (by decide) ?_
        refine xicmp_gt C 31 dX5_kind_17 (by decide) (fun h17 => ?_) (fun h17 => ?_)
        ·
          refine xbipush (v := -2) C dX5_kind_31 (by decide) ?_
          exact xret C hR (rfl) dX5_kind_33 (XO.mk (by simp only [opKind]; rw [ci_t (Or.inr (Or.inr (Or.inr (Or.inl h17))))]) hX)
        ·
          refine xiload_n C 3 rfl dX5_kind_20 ?_
          refine xiconst (v := 1) C dX5_kind_21 (by decide) ?_
          refine xicmp_lt C 31 dX5_kind_22 (by decide) (fun h22 => ?_) (fun h22 => ?_)
          ·
            refine xbipush (v := -2) C dX5_kind_31 (by decide) ?_
            exact xret C hR (rfl) dX5_kind_33 (XO.mk (by simp only [opKind]; rw [ci_t (Or.inr (Or.inr (Or.inr (Or.inr (Or.inl h22)))))]) hX)
          ·
            refine xiload_n C 3 rfl dX5_kind_25 ?_
            refine xbipush (v := 9) C dX5_kind_26 (by decide) ?_
            refine xicmp_le C 34 dX5_kind_28 (by decide) (fun h28 => ?_) (fun h28 => ?_)
            ·
              obtain ⟨p, hp2, rfl⟩ := box02 h1 h6
              obtain ⟨q, hq1, hq9, rfl⟩ := box19 h11 h17
              obtain ⟨r, hr1, hr9, rfl⟩ := box19 h22 (Int32.not_lt.mpr h28)
              refine xaload_n C 0 rfl dX5_kind_34 ?_
              refine gX5_21 C dX5_kind_35 ?_
              refine xiload_n C 1 rfl dX5_kind_38 ?_
              refine pX5_86 C dX5_kind_39 ?_
              refine xaload_n C 0 rfl dX5_kind_42 ?_
              refine gX5_21 C dX5_kind_43 ?_
              refine xiload_n C 2 rfl dX5_kind_46 ?_
              refine pX5_89 C dX5_kind_47 ?_
              refine xaload_n C 0 rfl dX5_kind_50 ?_
              refine gX5_21 C dX5_kind_51 ?_
              refine xiload_n C 3 rfl dX5_kind_54 ?_
              refine pX5_92 C dX5_kind_55 ?_
              refine xaload_n C 0 rfl dX5_kind_58 ?_
              refine xcVV C (c_X5_startAnew (hK.setK p q r) (hW.setK hp2 hq1 hq9 hr1 hr9) sd (by rw [va_up_ne _ _ (by decide), va_up_ne _ _ (by decide), va_up_ne _ _ (by decide)]; exact hsd)) yk_X5_startAnew 0 rfl rfl xml_X5_65 ⟨⟨Nat.le_of_ble_eq_true rfl, Nat.le_of_ble_eq_true rfl⟩, ⟨rfl, rfl⟩, ⟨Nat.zero_le _, Nat.zero_le _⟩⟩ rfl (Nat.le_of_ble_eq_true rfl) dX5_kind_59 (fun wE hE => ?_)
              obtain ⟨IS, FS, rfl, hRS⟩ := hE
              refine xiconst (v := nI 1) C dX5_kind_62 (by decide) ?_
              exact xret C hR (rfl) dX5_kind_63 (XO.mk (by simp only [opKind]; rw [ci_f (fun q => q.elim h1 (fun q => q.elim h6 (fun q => q.elim h11 (fun q => q.elim h17 (fun q => q.elim h22 (fun q => absurd q (Int32.not_lt.mpr h28))))))), show cl (nI p) = p from nI_clamp (by omega), show cl (nI q) = q from nI_clamp (by omega), show cl (nI r) = r from nI_clamp (by omega), nI_one]) hRS)
            ·
              refine xbipush (v := -2) C dX5_kind_31 (by decide) ?_
              exact xret C hR (rfl) dX5_kind_33 (XO.mk (by simp only [opKind]; rw [ci_t (Or.inr (Or.inr (Or.inr (Or.inr (Or.inr (Int32.not_le.mp h28))))))]) hX)
theorem dX5_hold_0 : decode cX5_hold 0 = .ok (.aload_n 0, 1) := by decide +kernel
theorem dX5_hold_1 : decode cX5_hold 1 = .ok (.getfield 10, 3) := by decide +kernel
theorem dX5_hold_4 : decode cX5_hold 4 = .ok (.iload_n 1, 1) := by decide +kernel
theorem dX5_hold_5 : decode cX5_hold 5 = .ok (.invokevirtual 68, 3) := by decide +kernel
theorem dX5_hold_8 : decode cX5_hold 8 = .ok (.ifCond .ne 5, 3) := by decide +kernel
theorem dX5_hold_11 : decode cX5_hold 11 = .ok (.iconst (-1), 1) := by decide +kernel
theorem dX5_hold_12 : decode cX5_hold 12 = .ok (.ireturn, 1) := by decide +kernel
theorem dX5_hold_13 : decode cX5_hold 13 = .ok (.iload_n 2, 1) := by decide +kernel
theorem dX5_hold_14 : decode cX5_hold 14 = .ok (.iconst (-1), 1) := by decide +kernel
theorem dX5_hold_15 : decode cX5_hold 15 = .ok (.if_icmp .lt 16, 3) := by decide +kernel
theorem dX5_hold_18 : decode cX5_hold 18 = .ok (.iload_n 2, 1) := by decide +kernel
theorem dX5_hold_19 : decode cX5_hold 19 = .ok (.aload_n 0, 1) := by decide +kernel
theorem dX5_hold_20 : decode cX5_hold 20 = .ok (.getfield 10, 3) := by decide +kernel
theorem dX5_hold_23 : decode cX5_hold 23 = .ok (.getfield 95, 3) := by decide +kernel
theorem dX5_hold_26 : decode cX5_hold 26 = .ok (.iload_n 1, 1) := by decide +kernel
theorem dX5_hold_27 : decode cX5_hold 27 = .ok (.iaload, 1) := by decide +kernel
theorem dX5_hold_28 : decode cX5_hold 28 = .ok (.if_icmp .le 6, 3) := by decide +kernel
theorem dX5_hold_31 : decode cX5_hold 31 = .ok (.bipush (-2), 2) := by decide +kernel
theorem dX5_hold_33 : decode cX5_hold 33 = .ok (.ireturn, 1) := by decide +kernel
theorem dX5_hold_34 : decode cX5_hold 34 = .ok (.aload_n 0, 1) := by decide +kernel
theorem dX5_hold_35 : decode cX5_hold 35 = .ok (.getfield 10, 3) := by decide +kernel
theorem dX5_hold_38 : decode cX5_hold 38 = .ok (.getfield 98, 3) := by decide +kernel
theorem dX5_hold_41 : decode cX5_hold 41 = .ok (.iload_n 1, 1) := by decide +kernel
theorem dX5_hold_42 : decode cX5_hold 42 = .ok (.iaload, 1) := by decide +kernel
theorem dX5_hold_43 : decode cX5_hold 43 = .ok (.istore_n 3, 1) := by decide +kernel
theorem dX5_hold_44 : decode cX5_hold 44 = .ok (.aload_n 0, 1) := by decide +kernel
theorem dX5_hold_45 : decode cX5_hold 45 = .ok (.getfield 10, 3) := by decide +kernel
theorem dX5_hold_48 : decode cX5_hold 48 = .ok (.getfield 98, 3) := by decide +kernel
theorem dX5_hold_51 : decode cX5_hold 51 = .ok (.iload_n 1, 1) := by decide +kernel
theorem dX5_hold_52 : decode cX5_hold 52 = .ok (.iload_n 2, 1) := by decide +kernel
theorem dX5_hold_53 : decode cX5_hold 53 = .ok (.iastore, 1) := by decide +kernel
theorem dX5_hold_54 : decode cX5_hold 54 = .ok (.aload_n 0, 1) := by decide +kernel
theorem dX5_hold_55 : decode cX5_hold 55 = .ok (.invokevirtual 65, 3) := by decide +kernel
theorem dX5_hold_58 : decode cX5_hold 58 = .ok (.iload_n 3, 1) := by decide +kernel
theorem dX5_hold_59 : decode cX5_hold 59 = .ok (.ireturn, 1) := by decide +kernel
def rX5_hold : Room := { frames := 4, cells := 0, slots := 0, locals := 87 }
theorem yk_X5_hold : YK yX5_hold cX5_hold 4 (some .int) 2 := ⟨xim_X5_hold, xse_X5_hold, xin_X5, xco_X5_hold, by decide +kernel⟩
set_option maxRecDepth 4000 in
theorem c_X5_hold {l : Launch} {D : va_G} {t : Nat → ClassId} {a : Nat → Nat} {I : Nat → Int32} {F : Nat → Nat → Int32} {L : Nat → Int64} {K : Cfg} {sd : Int32} {hd : Nat → Nat} {dk : Bool} {dw : Nat → Nat} {mt : Int32} (hI : INV (K, sd, hd, dk, dw, mt)) (hX : RX (K, sd, hd, dk, dw, mt) I F) (x y : Int32) : CT l D t yX5_hold cX5_hold 4 (some .int) rX5_hold 0 0 [.ref (a 0), .int x, .int y] (WX a t I F L) (XO a t (opHold (K, sd, hd, dk, dw, mt) x y)) := by
  refine CT.of (by decide +kernel) (by simp [lg_sl, Value.category]) (fun X C hR => ?_)
  refine xlocals (lv' := [(0, .ref (a 0)), (1, .int x), (2, .int y)]) rfl ?_
  obtain ⟨hK, hsd, hHd, hdk, hdr, hgd, hHS, hLS⟩ := id hX
  have hW : WFK K := hI.1
  have hrg := hI.2.1
  have fn24 := hW.n24; have fm60 := hW.m60; have fk2 := hW.k2; have fu1 := hW.u1; have fu9 := hW.u9; have fv1 := hW.v1; have fv9 := hW.v9
  refine xaload_n C 0 rfl dX5_hold_0 ?_
  refine gX5_10 C dX5_hold_1 ?_
  refine xiload_n C 1 rfl dX5_hold_4 ?_
  refine xcVR C (c_X1_has hK hW x) yk_X1_has 1 rfl rfl xml_X5_68 ⟨⟨Nat.le_of_ble_eq_true rfl, Nat.le_of_ble_eq_true rfl⟩, ⟨rfl, rfl⟩, ⟨Nat.zero_le _, Nat.zero_le _⟩⟩ rfl (Nat.le_of_ble_eq_true rfl) dX5_hold_5 ?_
  refine xif_neN C 13 dX5_hold_8 (by decide) (bn_lt _) (fun h8 => ?_) (fun h8 => ?_)
  ·
    obtain ⟨p, hp, rfl⟩ := (bn_1 h8).nat hW
    refine xiload_n C 2 rfl dX5_hold_13 ?_
    refine xiconst (v := -1) C dX5_hold_14 (by decide) ?_
    refine xicmp_lt C 31 dX5_hold_15 (by decide) (fun h15 => ?_) (fun h15 => ?_)
    ·
      refine xbipush (v := -2) C dX5_hold_31 (by decide) ?_
      exact xret C hR (rfl) dX5_hold_33 (XO.mk (by simp only [opHold]; rw [ci_f (fun q => q (hasP_nat hW hp)), show cl (nI p) = p from nI_clamp (by omega), ci_t (Or.inl h15)]) hX)
    ·
      refine xiload_n C 2 rfl dX5_hold_18 ?_
      refine xaload_n C 0 rfl dX5_hold_19 ?_
      refine gX5_10 C dX5_hold_20 ?_
      refine gX5_95 C dX5_hold_23 ?_
      refine xiload_n C 1 rfl dX5_hold_26 ?_
      refine xa_top C hK hW p (by omega) dX5_hold_27 ?_
      have fb27 := (hW.top5 (by omega))
      refine xicmp_le C 34 dX5_hold_28 (by decide) (fun h28 => ?_) (fun h28 => ?_)
      ·
        obtain ⟨q, hq, hy0, hy1⟩ := boxH (hW.top5 hp) h15 (Int32.not_lt.mpr h28)
        refine xaload_n C 0 rfl dX5_hold_34 ?_
        refine gX5_10 C dX5_hold_35 ?_
        refine gX5_98 C dX5_hold_38 ?_
        refine xiload_n C 1 rfl dX5_hold_41 ?_
        refine xa_hd C hK hW p (by omega) dX5_hold_42 ?_
        have fb42 := (hW.hd6 (by omega))
        refine xistore_n (lv' := [(3, .int (nI (khd K p) - 1)), (0, .ref (a 0)), (1, .int (nI p)), (2, .int y)]) C dX5_hold_43 (by decide) rfl ?_
        refine xaload_n C 1 rfl dX5_hold_44 ?_
        refine gX5_10 C dX5_hold_45 ?_
        refine gX5_98 C dX5_hold_48 ?_
        refine xiload_n C 2 rfl dX5_hold_51 ?_
        refine xiload_n C 3 rfl dX5_hold_52 ?_
        refine xs_raw C 2 (by omega) p (show _ < 24 by omega) dX5_hold_53 ?_
        obtain ⟨FA, eFA⟩ : ∃ z : Nat → Nat → Int32, z = va_up F 2 (upd (F 2) p y) := ⟨_, rfl⟩
        refine xworld (ws' := WX a t I FA L) (by rw [eFA]) ?_
        refine xaload_n C 1 rfl dX5_hold_54 ?_
        refine xcVV C (c_X5_startAnew (hK.setH hp (by rw [eFA, va_up_self, hy0]) (fun z hz => by rw [eFA, va_up_ne _ _ hz])) (hW.setH hp hq) sd hsd) yk_X5_startAnew 0 rfl rfl xml_X5_65 ⟨⟨Nat.le_of_ble_eq_true rfl, Nat.le_of_ble_eq_true rfl⟩, ⟨rfl, rfl⟩, ⟨Nat.zero_le _, Nat.zero_le _⟩⟩ rfl (Nat.le_of_ble_eq_true rfl) dX5_hold_55 (fun wE hE => ?_)
        obtain ⟨IS, FS, rfl, hRS⟩ := hE
        refine xiload_n C 0 rfl dX5_hold_58 ?_
        exact xret C hR (rfl) dX5_hold_59 (XO.mk (by simp only [opHold]; rw [ci_f (fun q => q (hasP_nat hW hp)), show cl (nI p) = p from nI_clamp (by omega), ci_f (fun q => q.elim h15 (fun q => absurd q (Int32.not_lt.mpr h28))), show cl (y + 1) = q from by rw [hy1]; exact nI_clamp (by omega)]) hRS)
      ·
        refine xbipush (v := -2) C dX5_hold_31 (by decide) ?_
        exact xret C hR (rfl) dX5_hold_33 (XO.mk (by simp only [opHold]; rw [ci_f (fun q => q (hasP_nat hW hp)), show cl (nI p) = p from nI_clamp (by omega), ci_t (Or.inr (Int32.not_le.mp h28))]) hX)
  ·
    have h8 := bn_0 h8
    refine xiconst (v := -1) C dX5_hold_11 (by decide) ?_
    exact xret C hR (rfl) dX5_hold_12 (XO.mk (by simp only [opHold]; rw [ci_t h8]) hX)
theorem dX5_good_0 : decode cX5_good 0 = .ok (.aload_n 0, 1) := by decide +kernel
theorem dX5_good_1 : decode cX5_good 1 = .ok (.getfield 21, 3) := by decide +kernel
theorem dX5_good_4 : decode cX5_good 4 = .ok (.getfield 101, 3) := by decide +kernel
theorem dX5_good_7 : decode cX5_good 7 = .ok (.ifCond .eq 7, 3) := by decide +kernel
theorem dX5_good_10 : decode cX5_good 10 = .ok (.iconst 1, 1) := by decide +kernel
theorem dX5_good_11 : decode cX5_good 11 = .ok (.goto 4, 3) := by decide +kernel
theorem dX5_good_14 : decode cX5_good 14 = .ok (.iconst 0, 1) := by decide +kernel
theorem dX5_good_15 : decode cX5_good 15 = .ok (.ireturn, 1) := by decide +kernel
def rX5_good : Room := { frames := 0, cells := 0, slots := 0, locals := 0 }
theorem yk_X5_good : YK yX5_good cX5_good 1 (some .int) 0 := ⟨xim_X5_good, xse_X5_good, xin_X5, xco_X5_good, by decide +kernel⟩
set_option maxRecDepth 4000 in
theorem c_X5_good {l : Launch} {D : va_G} {t : Nat → ClassId} {a : Nat → Nat} {I : Nat → Int32} {F : Nat → Nat → Int32} {L : Nat → Int64} {K : Cfg} {sd : Int32} {hd : Nat → Nat} {dk : Bool} {dw : Nat → Nat} {mt : Int32} (hI : INV (K, sd, hd, dk, dw, mt)) (hX : RX (K, sd, hd, dk, dw, mt) I F)  : CT l D t yX5_good cX5_good 1 (some .int) rX5_good 0 0 [.ref (a 0)] (WX a t I F L) (XO a t (opGood (K, sd, hd, dk, dw, mt))) := by
  refine CT.of (by decide +kernel) (by simp [lg_sl, Value.category]) (fun X C hR => ?_)
  refine xlocals (lv' := [(0, .ref (a 0))]) rfl ?_
  obtain ⟨hK, hsd, hHd, hdk, hdr, hgd, hHS, hLS⟩ := id hX
  have hW : WFK K := hI.1
  have hrg := hI.2.1
  have fn24 := hW.n24; have fm60 := hW.m60; have fk2 := hW.k2; have fu1 := hW.u1; have fu9 := hW.u9; have fv1 := hW.v1; have fv9 := hW.v9
  refine xaload_n C 0 rfl dX5_good_0 ?_
  refine gX5_21 C dX5_good_1 ?_
  refine gX5_101 C dX5_good_4 ?_
  refine xtopi (y := nI (bn (GoodP K))) (hgd) ?_
  refine xif_eqN C 14 dX5_good_7 (by decide) (bn_lt _) (fun h7 => ?_) (fun h7 => ?_)
  ·
    refine xiconst (v := nI 0) C dX5_good_14 (by decide) ?_
    exact xret C hR (rfl) dX5_good_15 (XO.mk (by simp only [opGood]; rw [bn_f (bn_0 h7)]) hX)
  ·
    refine xiconst (v := nI 1) C dX5_good_10 (by decide) ?_
    refine xgoto C 15 dX5_good_11 (by decide) ?_
    exact xret C hR (rfl) dX5_good_15 (XO.mk (by simp only [opGood]; rw [bn_t (bn_1 h7)]) hX)
theorem dX5_highest_0 : decode cX5_highest 0 = .ok (.aload_n 0, 1) := by decide +kernel
theorem dX5_highest_1 : decode cX5_highest 1 = .ok (.getfield 10, 3) := by decide +kernel
theorem dX5_highest_4 : decode cX5_highest 4 = .ok (.iload_n 1, 1) := by decide +kernel
theorem dX5_highest_5 : decode cX5_highest 5 = .ok (.invokevirtual 68, 3) := by decide +kernel
theorem dX5_highest_8 : decode cX5_highest 8 = .ok (.ifCond .ne 5, 3) := by decide +kernel
theorem dX5_highest_11 : decode cX5_highest 11 = .ok (.iconst (-1), 1) := by decide +kernel
theorem dX5_highest_12 : decode cX5_highest 12 = .ok (.ireturn, 1) := by decide +kernel
theorem dX5_highest_13 : decode cX5_highest 13 = .ok (.aload_n 0, 1) := by decide +kernel
theorem dX5_highest_14 : decode cX5_highest 14 = .ok (.getfield 21, 3) := by decide +kernel
theorem dX5_highest_17 : decode cX5_highest 17 = .ok (.getfield 101, 3) := by decide +kernel
theorem dX5_highest_20 : decode cX5_highest 20 = .ok (.ifCond .eq 15, 3) := by decide +kernel
theorem dX5_highest_23 : decode cX5_highest 23 = .ok (.aload_n 0, 1) := by decide +kernel
theorem dX5_highest_24 : decode cX5_highest 24 = .ok (.getfield 21, 3) := by decide +kernel
theorem dX5_highest_27 : decode cX5_highest 27 = .ok (.getfield 105, 3) := by decide +kernel
theorem dX5_highest_30 : decode cX5_highest 30 = .ok (.iload_n 1, 1) := by decide +kernel
theorem dX5_highest_31 : decode cX5_highest 31 = .ok (.iaload, 1) := by decide +kernel
theorem dX5_highest_32 : decode cX5_highest 32 = .ok (.goto 5, 3) := by decide +kernel
theorem dX5_highest_35 : decode cX5_highest 35 = .ok (.bipush (-5), 2) := by decide +kernel
theorem dX5_highest_37 : decode cX5_highest 37 = .ok (.ireturn, 1) := by decide +kernel
def rX5_highest : Room := { frames := 1, cells := 0, slots := 0, locals := 21 }
theorem yk_X5_highest : YK yX5_highest cX5_highest 2 (some .int) 1 := ⟨xim_X5_highest, xse_X5_highest, xin_X5, xco_X5_highest, by decide +kernel⟩
set_option maxRecDepth 4000 in
theorem c_X5_highest {l : Launch} {D : va_G} {t : Nat → ClassId} {a : Nat → Nat} {I : Nat → Int32} {F : Nat → Nat → Int32} {L : Nat → Int64} {K : Cfg} {sd : Int32} {hd : Nat → Nat} {dk : Bool} {dw : Nat → Nat} {mt : Int32} (hI : INV (K, sd, hd, dk, dw, mt)) (hX : RX (K, sd, hd, dk, dw, mt) I F) (x : Int32) : CT l D t yX5_highest cX5_highest 2 (some .int) rX5_highest 0 0 [.ref (a 0), .int x] (WX a t I F L) (XO a t (opHigh (K, sd, hd, dk, dw, mt) x)) := by
  refine CT.of (by decide +kernel) (by simp [lg_sl, Value.category]) (fun X C hR => ?_)
  refine xlocals (lv' := [(0, .ref (a 0)), (1, .int x)]) rfl ?_
  obtain ⟨hK, hsd, hHd, hdk, hdr, hgd, hHS, hLS⟩ := id hX
  have hW : WFK K := hI.1
  have hrg := hI.2.1
  have fn24 := hW.n24; have fm60 := hW.m60; have fk2 := hW.k2; have fu1 := hW.u1; have fu9 := hW.u9; have fv1 := hW.v1; have fv9 := hW.v9
  refine xaload_n C 0 rfl dX5_highest_0 ?_
  refine gX5_10 C dX5_highest_1 ?_
  refine xiload_n C 1 rfl dX5_highest_4 ?_
  refine xcVR C (c_X1_has hK hW x) yk_X1_has 1 rfl rfl xml_X5_68 ⟨⟨Nat.le_of_ble_eq_true rfl, Nat.le_of_ble_eq_true rfl⟩, ⟨rfl, rfl⟩, ⟨Nat.zero_le _, Nat.zero_le _⟩⟩ rfl (Nat.le_of_ble_eq_true rfl) dX5_highest_5 ?_
  refine xif_neN C 13 dX5_highest_8 (by decide) (bn_lt _) (fun h8 => ?_) (fun h8 => ?_)
  ·
    obtain ⟨p, hp, rfl⟩ := (bn_1 h8).nat hW
    refine xaload_n C 0 rfl dX5_highest_13 ?_
    refine gX5_21 C dX5_highest_14 ?_
    refine gX5_101 C dX5_highest_17 ?_
    refine xtopi (y := nI (bn (GoodP K))) (hgd) ?_
    refine xif_eqN C 35 dX5_highest_20 (by decide) (bn_lt _) (fun h20 => ?_) (fun h20 => ?_)
    ·
      refine xbipush (v := -5) C dX5_highest_35 (by decide) ?_
      exact xret C hR (rfl) dX5_highest_37 (XO.mk (by simp only [opHigh]; rw [ci_f (fun q => q (hasP_nat hW hp)), ci_t (bn_0 h20)]) hX)
    ·
      refine xaload_n C 0 rfl dX5_highest_23 ?_
      refine gX5_21 C dX5_highest_24 ?_
      refine gX5_105 C dX5_highest_27 ?_
      refine xiload_n C 1 rfl dX5_highest_30 ?_
      refine xa_st C hW 6 (by omega) (by omega) hHS p (by omega) dX5_highest_31 ?_
      have fb31 := (hHS p (by omega)).2
      refine xgoto C 37 dX5_highest_32 (by decide) ?_
      exact xret C hR (rfl) dX5_highest_37 (XO.mk (by simp only [opHigh]; rw [ci_f (fun q => q (hasP_nat hW hp)), ci_f (fun q => q (bn_1 h20)), show cl (nI p) = p from nI_clamp (by omega)]) hX)
  ·
    have h8 := bn_0 h8
    refine xiconst (v := -1) C dX5_highest_11 (by decide) ?_
    exact xret C hR (rfl) dX5_highest_12 (XO.mk (by simp only [opHigh]; rw [ci_t h8]) hX)
theorem dX5_lowest_0 : decode cX5_lowest 0 = .ok (.aload_n 0, 1) := by decide +kernel
theorem dX5_lowest_1 : decode cX5_lowest 1 = .ok (.getfield 10, 3) := by decide +kernel
theorem dX5_lowest_4 : decode cX5_lowest 4 = .ok (.iload_n 1, 1) := by decide +kernel
theorem dX5_lowest_5 : decode cX5_lowest 5 = .ok (.invokevirtual 68, 3) := by decide +kernel
theorem dX5_lowest_8 : decode cX5_lowest 8 = .ok (.ifCond .ne 5, 3) := by decide +kernel
theorem dX5_lowest_11 : decode cX5_lowest 11 = .ok (.iconst (-1), 1) := by decide +kernel
theorem dX5_lowest_12 : decode cX5_lowest 12 = .ok (.ireturn, 1) := by decide +kernel
theorem dX5_lowest_13 : decode cX5_lowest 13 = .ok (.aload_n 0, 1) := by decide +kernel
theorem dX5_lowest_14 : decode cX5_lowest 14 = .ok (.getfield 21, 3) := by decide +kernel
theorem dX5_lowest_17 : decode cX5_lowest 17 = .ok (.getfield 101, 3) := by decide +kernel
theorem dX5_lowest_20 : decode cX5_lowest 20 = .ok (.ifCond .eq 15, 3) := by decide +kernel
theorem dX5_lowest_23 : decode cX5_lowest 23 = .ok (.aload_n 0, 1) := by decide +kernel
theorem dX5_lowest_24 : decode cX5_lowest 24 = .ok (.getfield 21, 3) := by decide +kernel
theorem dX5_lowest_27 : decode cX5_lowest 27 = .ok (.getfield 108, 3) := by decide +kernel
theorem dX5_lowest_30 : decode cX5_lowest 30 = .ok (.iload_n 1, 1) := by decide +kernel
theorem dX5_lowest_31 : decode cX5_lowest 31 = .ok (.iaload, 1) := by decide +kernel
theorem dX5_lowest_32 : decode cX5_lowest 32 = .ok (.goto 5, 3) := by decide +kernel
theorem dX5_lowest_35 : decode cX5_lowest 35 = .ok (.bipush (-5), 2) := by decide +kernel
theorem dX5_lowest_37 : decode cX5_lowest 37 = .ok (.ireturn, 1) := by decide +kernel
def rX5_lowest : Room := { frames := 1, cells := 0, slots := 0, locals := 21 }
theorem yk_X5_lowest : YK yX5_lowest cX5_lowest 2 (some .int) 1 := ⟨xim_X5_lowest, xse_X5_lowest, xin_X5, xco_X5_lowest, by decide +kernel⟩
set_option maxRecDepth 4000 in
theorem c_X5_lowest {l : Launch} {D : va_G} {t : Nat → ClassId} {a : Nat → Nat} {I : Nat → Int32} {F : Nat → Nat → Int32} {L : Nat → Int64} {K : Cfg} {sd : Int32} {hd : Nat → Nat} {dk : Bool} {dw : Nat → Nat} {mt : Int32} (hI : INV (K, sd, hd, dk, dw, mt)) (hX : RX (K, sd, hd, dk, dw, mt) I F) (x : Int32) : CT l D t yX5_lowest cX5_lowest 2 (some .int) rX5_lowest 0 0 [.ref (a 0), .int x] (WX a t I F L) (XO a t (opLow (K, sd, hd, dk, dw, mt) x)) := by
  refine CT.of (by decide +kernel) (by simp [lg_sl, Value.category]) (fun X C hR => ?_)
  refine xlocals (lv' := [(0, .ref (a 0)), (1, .int x)]) rfl ?_
  obtain ⟨hK, hsd, hHd, hdk, hdr, hgd, hHS, hLS⟩ := id hX
  have hW : WFK K := hI.1
  have hrg := hI.2.1
  have fn24 := hW.n24; have fm60 := hW.m60; have fk2 := hW.k2; have fu1 := hW.u1; have fu9 := hW.u9; have fv1 := hW.v1; have fv9 := hW.v9
  refine xaload_n C 0 rfl dX5_lowest_0 ?_
  refine gX5_10 C dX5_lowest_1 ?_
  refine xiload_n C 1 rfl dX5_lowest_4 ?_
  refine xcVR C (c_X1_has hK hW x) yk_X1_has 1 rfl rfl xml_X5_68 ⟨⟨Nat.le_of_ble_eq_true rfl, Nat.le_of_ble_eq_true rfl⟩, ⟨rfl, rfl⟩, ⟨Nat.zero_le _, Nat.zero_le _⟩⟩ rfl (Nat.le_of_ble_eq_true rfl) dX5_lowest_5 ?_
  refine xif_neN C 13 dX5_lowest_8 (by decide) (bn_lt _) (fun h8 => ?_) (fun h8 => ?_)
  ·
    obtain ⟨p, hp, rfl⟩ := (bn_1 h8).nat hW
    refine xaload_n C 0 rfl dX5_lowest_13 ?_
    refine gX5_21 C dX5_lowest_14 ?_
    refine gX5_101 C dX5_lowest_17 ?_
    refine xtopi (y := nI (bn (GoodP K))) (hgd) ?_
    refine xif_eqN C 35 dX5_lowest_20 (by decide) (bn_lt _) (fun h20 => ?_) (fun h20 => ?_)
    ·
      refine xbipush (v := -5) C dX5_lowest_35 (by decide) ?_
      exact xret C hR (rfl) dX5_lowest_37 (XO.mk (by simp only [opLow]; rw [ci_f (fun q => q (hasP_nat hW hp)), ci_t (bn_0 h20)]) hX)
    ·
      refine xaload_n C 0 rfl dX5_lowest_23 ?_
      refine gX5_21 C dX5_lowest_24 ?_
      refine gX5_108 C dX5_lowest_27 ?_
      refine xiload_n C 1 rfl dX5_lowest_30 ?_
      refine xa_st C hW 7 (by omega) (by omega) hLS p (by omega) dX5_lowest_31 ?_
      have fb31 := (hLS p (by omega)).2
      refine xgoto C 37 dX5_lowest_32 (by decide) ?_
      exact xret C hR (rfl) dX5_lowest_37 (XO.mk (by simp only [opLow]; rw [ci_f (fun q => q (hasP_nat hW hp)), ci_f (fun q => q (bn_1 h20)), show cl (nI p) = p from nI_clamp (by omega)]) hX)
  ·
    have h8 := bn_0 h8
    refine xiconst (v := -1) C dX5_lowest_11 (by decide) ?_
    exact xret C hR (rfl) dX5_lowest_12 (XO.mk (by simp only [opLow]; rw [ci_t h8]) hX)
theorem dX5_at_0 : decode cX5_at 0 = .ok (.aload_n 0, 1) := by decide +kernel
theorem dX5_at_1 : decode cX5_at 1 = .ok (.getfield 10, 3) := by decide +kernel
theorem dX5_at_4 : decode cX5_at 4 = .ok (.iload_n 1, 1) := by decide +kernel
theorem dX5_at_5 : decode cX5_at 5 = .ok (.invokevirtual 68, 3) := by decide +kernel
theorem dX5_at_8 : decode cX5_at 8 = .ok (.ifCond .eq 12, 3) := by decide +kernel
theorem dX5_at_11 : decode cX5_at 11 = .ok (.aload_n 0, 1) := by decide +kernel
theorem dX5_at_12 : decode cX5_at 12 = .ok (.getfield 50, 3) := by decide +kernel
theorem dX5_at_15 : decode cX5_at 15 = .ok (.iload_n 1, 1) := by decide +kernel
theorem dX5_at_16 : decode cX5_at 16 = .ok (.iaload, 1) := by decide +kernel
theorem dX5_at_17 : decode cX5_at 17 = .ok (.goto 4, 3) := by decide +kernel
theorem dX5_at_20 : decode cX5_at 20 = .ok (.iconst (-1), 1) := by decide +kernel
theorem dX5_at_21 : decode cX5_at 21 = .ok (.ireturn, 1) := by decide +kernel
def rX5_at : Room := { frames := 1, cells := 0, slots := 0, locals := 21 }
theorem yk_X5_at : YK yX5_at cX5_at 2 (some .int) 1 := ⟨xim_X5_at, xse_X5_at, xin_X5, xco_X5_at, by decide +kernel⟩
set_option maxRecDepth 4000 in
theorem c_X5_at {l : Launch} {D : va_G} {t : Nat → ClassId} {a : Nat → Nat} {I : Nat → Int32} {F : Nat → Nat → Int32} {L : Nat → Int64} {K : Cfg} {sd : Int32} {hd : Nat → Nat} {dk : Bool} {dw : Nat → Nat} {mt : Int32} (hI : INV (K, sd, hd, dk, dw, mt)) (hX : RX (K, sd, hd, dk, dw, mt) I F) (x : Int32) : CT l D t yX5_at cX5_at 2 (some .int) rX5_at 0 0 [.ref (a 0), .int x] (WX a t I F L) (XO a t (opAt (K, sd, hd, dk, dw, mt) x)) := by
  refine CT.of (by decide +kernel) (by simp [lg_sl, Value.category]) (fun X C hR => ?_)
  refine xlocals (lv' := [(0, .ref (a 0)), (1, .int x)]) rfl ?_
  obtain ⟨hK, hsd, hHd, hdk, hdr, hgd, hHS, hLS⟩ := id hX
  have hW : WFK K := hI.1
  have hrg := hI.2.1
  have fn24 := hW.n24; have fm60 := hW.m60; have fk2 := hW.k2; have fu1 := hW.u1; have fu9 := hW.u9; have fv1 := hW.v1; have fv9 := hW.v9
  refine xaload_n C 0 rfl dX5_at_0 ?_
  refine gX5_10 C dX5_at_1 ?_
  refine xiload_n C 1 rfl dX5_at_4 ?_
  refine xcVR C (c_X1_has hK hW x) yk_X1_has 1 rfl rfl xml_X5_68 ⟨⟨Nat.le_of_ble_eq_true rfl, Nat.le_of_ble_eq_true rfl⟩, ⟨rfl, rfl⟩, ⟨Nat.zero_le _, Nat.zero_le _⟩⟩ rfl (Nat.le_of_ble_eq_true rfl) dX5_at_5 ?_
  refine xif_eqN C 20 dX5_at_8 (by decide) (bn_lt _) (fun h8 => ?_) (fun h8 => ?_)
  ·
    have h8 := bn_0 h8
    refine xiconst (v := -1) C dX5_at_20 (by decide) ?_
    exact xret C hR (rfl) dX5_at_21 (XO.mk (by simp only [opAt]; rw [ci_t h8]) hX)
  ·
    obtain ⟨p, hp, rfl⟩ := (bn_1 h8).nat hW
    refine xaload_n C 0 rfl dX5_at_11 ?_
    refine gX5_50 C dX5_at_12 ?_
    refine xiload_n C 1 rfl dX5_at_15 ?_
    refine xa_st C hW 12 (by omega) (by omega) hHd p (by omega) dX5_at_16 ?_
    have fb16 := (hHd p (by omega)).2
    refine xgoto C 21 dX5_at_17 (by decide) ?_
    exact xret C hR (rfl) dX5_at_21 (XO.mk (by simp only [opAt]; rw [ci_f (fun q => q (hasP_nat hW hp)), show cl (nI p) = p from nI_clamp (by omega)]) hX)
theorem dX5_put_0 : decode cX5_put 0 = .ok (.aload_n 0, 1) := by decide +kernel
theorem dX5_put_1 : decode cX5_put 1 = .ok (.getfield 10, 3) := by decide +kernel
theorem dX5_put_4 : decode cX5_put 4 = .ok (.iload_n 1, 1) := by decide +kernel
theorem dX5_put_5 : decode cX5_put 5 = .ok (.invokevirtual 68, 3) := by decide +kernel
theorem dX5_put_8 : decode cX5_put 8 = .ok (.ifCond .ne 5, 3) := by decide +kernel
theorem dX5_put_11 : decode cX5_put 11 = .ok (.iconst (-1), 1) := by decide +kernel
theorem dX5_put_12 : decode cX5_put 12 = .ok (.ireturn, 1) := by decide +kernel
theorem dX5_put_13 : decode cX5_put 13 = .ok (.iload_n 2, 1) := by decide +kernel
theorem dX5_put_14 : decode cX5_put 14 = .ok (.ifCond .lt 16, 3) := by decide +kernel
theorem dX5_put_17 : decode cX5_put 17 = .ok (.iload_n 2, 1) := by decide +kernel
theorem dX5_put_18 : decode cX5_put 18 = .ok (.aload_n 0, 1) := by decide +kernel
theorem dX5_put_19 : decode cX5_put 19 = .ok (.getfield 10, 3) := by decide +kernel
theorem dX5_put_22 : decode cX5_put 22 = .ok (.getfield 95, 3) := by decide +kernel
theorem dX5_put_25 : decode cX5_put 25 = .ok (.iload_n 1, 1) := by decide +kernel
theorem dX5_put_26 : decode cX5_put 26 = .ok (.iaload, 1) := by decide +kernel
theorem dX5_put_27 : decode cX5_put 27 = .ok (.if_icmp .le 6, 3) := by decide +kernel
theorem dX5_put_30 : decode cX5_put 30 = .ok (.bipush (-2), 2) := by decide +kernel
theorem dX5_put_32 : decode cX5_put 32 = .ok (.ireturn, 1) := by decide +kernel
theorem dX5_put_33 : decode cX5_put 33 = .ok (.aload_n 0, 1) := by decide +kernel
theorem dX5_put_34 : decode cX5_put 34 = .ok (.getfield 50, 3) := by decide +kernel
theorem dX5_put_37 : decode cX5_put 37 = .ok (.iload_n 1, 1) := by decide +kernel
theorem dX5_put_38 : decode cX5_put 38 = .ok (.iaload, 1) := by decide +kernel
theorem dX5_put_39 : decode cX5_put 39 = .ok (.istore_n 3, 1) := by decide +kernel
theorem dX5_put_40 : decode cX5_put 40 = .ok (.aload_n 0, 1) := by decide +kernel
theorem dX5_put_41 : decode cX5_put 41 = .ok (.getfield 50, 3) := by decide +kernel
theorem dX5_put_44 : decode cX5_put 44 = .ok (.iload_n 1, 1) := by decide +kernel
theorem dX5_put_45 : decode cX5_put 45 = .ok (.iload_n 2, 1) := by decide +kernel
theorem dX5_put_46 : decode cX5_put 46 = .ok (.iastore, 1) := by decide +kernel
theorem dX5_put_47 : decode cX5_put 47 = .ok (.aload_n 0, 1) := by decide +kernel
theorem dX5_put_48 : decode cX5_put 48 = .ok (.getfield 21, 3) := by decide +kernel
theorem dX5_put_51 : decode cX5_put 51 = .ok (.aload_n 0, 1) := by decide +kernel
theorem dX5_put_52 : decode cX5_put 52 = .ok (.getfield 50, 3) := by decide +kernel
theorem dX5_put_55 : decode cX5_put 55 = .ok (.invokevirtual 111, 3) := by decide +kernel
theorem dX5_put_58 : decode cX5_put 58 = .ok (.ifCond .ne 13, 3) := by decide +kernel
theorem dX5_put_61 : decode cX5_put 61 = .ok (.aload_n 0, 1) := by decide +kernel
theorem dX5_put_62 : decode cX5_put 62 = .ok (.getfield 50, 3) := by decide +kernel
theorem dX5_put_65 : decode cX5_put 65 = .ok (.iload_n 1, 1) := by decide +kernel
theorem dX5_put_66 : decode cX5_put 66 = .ok (.iload_n 3, 1) := by decide +kernel
theorem dX5_put_67 : decode cX5_put 67 = .ok (.iastore, 1) := by decide +kernel
theorem dX5_put_68 : decode cX5_put 68 = .ok (.bipush (-5), 2) := by decide +kernel
theorem dX5_put_70 : decode cX5_put 70 = .ok (.ireturn, 1) := by decide +kernel
theorem dX5_put_71 : decode cX5_put 71 = .ok (.iload_n 3, 1) := by decide +kernel
theorem dX5_put_72 : decode cX5_put 72 = .ok (.ireturn, 1) := by decide +kernel
def rX5_put : Room := { frames := 3, cells := 0, slots := 0, locals := 65 }
theorem yk_X5_put : YK yX5_put cX5_put 4 (some .int) 2 := ⟨xim_X5_put, xse_X5_put, xin_X5, xco_X5_put, by decide +kernel⟩
set_option maxRecDepth 4000 in
theorem c_X5_put {l : Launch} {D : va_G} {t : Nat → ClassId} {a : Nat → Nat} {I : Nat → Int32} {F : Nat → Nat → Int32} {L : Nat → Int64} {K : Cfg} {sd : Int32} {hd : Nat → Nat} {dk : Bool} {dw : Nat → Nat} {mt : Int32} (hI : INV (K, sd, hd, dk, dw, mt)) (hX : RX (K, sd, hd, dk, dw, mt) I F) (x y : Int32) : CT l D t yX5_put cX5_put 4 (some .int) rX5_put 0 0 [.ref (a 0), .int x, .int y] (WX a t I F L) (XO a t (opPut (K, sd, hd, dk, dw, mt) x y)) := by
  refine CT.of (by decide +kernel) (by simp [lg_sl, Value.category]) (fun X C hR => ?_)
  refine xlocals (lv' := [(0, .ref (a 0)), (1, .int x), (2, .int y)]) rfl ?_
  obtain ⟨hK, hsd, hHd, hdk, hdr, hgd, hHS, hLS⟩ := id hX
  have hW : WFK K := hI.1
  have hrg := hI.2.1
  have fn24 := hW.n24; have fm60 := hW.m60; have fk2 := hW.k2; have fu1 := hW.u1; have fu9 := hW.u9; have fv1 := hW.v1; have fv9 := hW.v9
  refine xaload_n C 0 rfl dX5_put_0 ?_
  refine gX5_10 C dX5_put_1 ?_
  refine xiload_n C 1 rfl dX5_put_4 ?_
  refine xcVR C (c_X1_has hK hW x) yk_X1_has 1 rfl rfl xml_X5_68 ⟨⟨Nat.le_of_ble_eq_true rfl, Nat.le_of_ble_eq_true rfl⟩, ⟨rfl, rfl⟩, ⟨Nat.zero_le _, Nat.zero_le _⟩⟩ rfl (Nat.le_of_ble_eq_true rfl) dX5_put_5 ?_
  refine xif_neN C 13 dX5_put_8 (by decide) (bn_lt _) (fun h8 => ?_) (fun h8 => ?_)
  ·
    obtain ⟨p, hp, rfl⟩ := (bn_1 h8).nat hW
    refine xiload_n C 2 rfl dX5_put_13 ?_
    refine xif_lt C 30 dX5_put_14 (by decide) (fun h14 => ?_) (fun h14 => ?_)
    ·
      refine xbipush (v := -2) C dX5_put_30 (by decide) ?_
      exact xret C hR (rfl) dX5_put_32 (XO.mk (by simp only [opPut]; rw [ci_f (fun q => q (hasP_nat hW hp)), show cl (nI p) = p from nI_clamp (by omega), ci_t (Or.inl h14)]) hX)
    ·
      refine xiload_n C 2 rfl dX5_put_17 ?_
      refine xaload_n C 0 rfl dX5_put_18 ?_
      refine gX5_10 C dX5_put_19 ?_
      refine gX5_95 C dX5_put_22 ?_
      refine xiload_n C 1 rfl dX5_put_25 ?_
      refine xa_top C hK hW p (by omega) dX5_put_26 ?_
      have fb26 := (hW.top5 (by omega))
      refine xicmp_le C 33 dX5_put_27 (by decide) (fun h27 => ?_) (fun h27 => ?_)
      ·
        have ht5 := hW.top5 hp
        obtain ⟨q, _, hq, rfl⟩ := boxN (a := 0) (by decide) (show ktop K p < 1000000 by omega) (by rw [nI_0]; exact h14) (Int32.not_lt.mpr h27)
        refine xaload_n C 0 rfl dX5_put_33 ?_
        refine gX5_50 C dX5_put_34 ?_
        refine xiload_n C 1 rfl dX5_put_37 ?_
        refine xa_st C hW 12 (by omega) (by omega) hHd p (by omega) dX5_put_38 ?_
        have fb38 := (hHd p (by omega)).2
        refine xistore_n (lv' := [(3, .int (nI (hd p))), (0, .ref (a 0)), (1, .int (nI p)), (2, .int (nI q))]) C dX5_put_39 (by decide) rfl ?_
        refine xaload_n C 1 rfl dX5_put_40 ?_
        refine gX5_50 C dX5_put_41 ?_
        refine xiload_n C 2 rfl dX5_put_44 ?_
        refine xiload_n C 3 rfl dX5_put_45 ?_
        refine xs_st C 12 (by omega) (by omega) p (by omega) dX5_put_46 ?_
        obtain ⟨FA, eFA⟩ : ∃ z : Nat → Nat → Int32, z = va_up F 12 (upd (F 12) p (nI q)) := ⟨_, rfl⟩
        refine xworld (ws' := WX a t I FA L) (by rw [eFA]) ?_
        have hHA : RA (kn K) (FA 12) (va_up hd p q) := by rw [eFA, va_up_self]; exact hHd.up (by omega)
        have hKA : CFG K I FA := by rw [eFA]; exact hK.upF (by omega) (by omega) _
        refine xaload_n C 1 rfl dX5_put_47 ?_
        refine gX5_21 C dX5_put_48 ?_
        refine xaload_n C 1 rfl dX5_put_51 ?_
        refine gX5_50 C dX5_put_52 ?_
        refine xcVR C (c_X2_isAllowed hKA hW 12 (by omega) (by omega) hHA) yk_X2_isAllowed 2 rfl rfl xml_X5_111 ⟨⟨Nat.le_of_ble_eq_true rfl, Nat.le_of_ble_eq_true rfl⟩, ⟨rfl, rfl⟩, ⟨Nat.zero_le _, Nat.zero_le _⟩⟩ rfl (Nat.le_of_ble_eq_true rfl) dX5_put_55 ?_
        have fq55 := bn_le (alP K (va_up hd p q))
        refine xif_neN C 71 dX5_put_58 (by decide) (bn_lt _) (fun h58 => ?_) (fun h58 => ?_)
        ·
          refine xiload_n C 0 rfl dX5_put_71 ?_
          exact xret C hR (rfl) dX5_put_72 (XO.mk (by simp only [opPut]; rw [ci_f (fun q => q (hasP_nat hW hp)), show cl (nI p) = p from nI_clamp (by omega), ci_f (fun q => q.elim h14 (fun q => absurd q (Int32.not_lt.mpr h27))), show cl (nI q) = q from nI_clamp (by omega), ci_f (fun q => q (bn_1 h58))]) (hX.hnd (fun z hz => by rw [eFA, va_up_ne _ _ hz]) hHA))
        ·
          refine xaload_n C 1 rfl dX5_put_61 ?_
          refine gX5_50 C dX5_put_62 ?_
          refine xiload_n C 2 rfl dX5_put_65 ?_
          refine xiload_n C 0 rfl dX5_put_66 ?_
          refine xs_st C 12 (by omega) (by omega) p (by omega) dX5_put_67 ?_
          obtain ⟨FB, eFB⟩ : ∃ z : Nat → Nat → Int32, z = va_up FA 12 (upd (FA 12) p (nI (hd p))) := ⟨_, rfl⟩
          refine xworld (ws' := WX a t I FB L) (by rw [eFB]) ?_
          refine xbipush (v := -5) C dX5_put_68 (by decide) ?_
          exact xret C hR (rfl) dX5_put_70 (XO.mk (by simp only [opPut]; rw [ci_f (fun q => q (hasP_nat hW hp)), show cl (nI p) = p from nI_clamp (by omega), ci_f (fun q => q.elim h14 (fun q => absurd q (Int32.not_lt.mpr h27))), show cl (nI q) = q from nI_clamp (by omega), ci_t (bn_0 h58)]) (hX.hnd (fun z hz => by rw [eFB, va_up_ne _ _ hz, eFA, va_up_ne _ _ hz]) (by rw [eFB, va_up_self, eFA, va_up_self]; exact hHd.back hp)))
      ·
        refine xbipush (v := -2) C dX5_put_30 (by decide) ?_
        exact xret C hR (rfl) dX5_put_32 (XO.mk (by simp only [opPut]; rw [ci_f (fun q => q (hasP_nat hW hp)), show cl (nI p) = p from nI_clamp (by omega), ci_t (Or.inr (Int32.not_le.mp h27))]) hX)
  ·
    have h8 := bn_0 h8
    refine xiconst (v := -1) C dX5_put_11 (by decide) ?_
    exact xret C hR (rfl) dX5_put_12 (XO.mk (by simp only [opPut]; rw [ci_t h8]) hX)
theorem dX5_take_0 : decode cX5_take 0 = .ok (.iload_n 1, 1) := by decide +kernel
theorem dX5_take_1 : decode cX5_take 1 = .ok (.ifCond .lt 8, 3) := by decide +kernel
theorem dX5_take_4 : decode cX5_take 4 = .ok (.iload_n 1, 1) := by decide +kernel
theorem dX5_take_5 : decode cX5_take 5 = .ok (.iconst 2, 1) := by decide +kernel
theorem dX5_take_6 : decode cX5_take 6 = .ok (.if_icmp .le 6, 3) := by decide +kernel
theorem dX5_take_9 : decode cX5_take 9 = .ok (.bipush (-2), 2) := by decide +kernel
theorem dX5_take_11 : decode cX5_take 11 = .ok (.ireturn, 1) := by decide +kernel
theorem dX5_take_12 : decode cX5_take 12 = .ok (.iload_n 1, 1) := by decide +kernel
theorem dX5_take_13 : decode cX5_take 13 = .ok (.iconst 2, 1) := by decide +kernel
theorem dX5_take_14 : decode cX5_take 14 = .ok (.if_icmp .ne 16, 3) := by decide +kernel
theorem dX5_take_17 : decode cX5_take 17 = .ok (.aload_n 0, 1) := by decide +kernel
theorem dX5_take_18 : decode cX5_take 18 = .ok (.getfield 39, 3) := by decide +kernel
theorem dX5_take_21 : decode cX5_take 21 = .ok (.getfield 115, 3) := by decide +kernel
theorem dX5_take_24 : decode cX5_take 24 = .ok (.ifCond .ne 6, 3) := by decide +kernel
theorem dX5_take_27 : decode cX5_take 27 = .ok (.bipush (-3), 2) := by decide +kernel
theorem dX5_take_29 : decode cX5_take 29 = .ok (.ireturn, 1) := by decide +kernel
theorem dX5_take_30 : decode cX5_take 30 = .ok (.aload_n 0, 1) := by decide +kernel
theorem dX5_take_31 : decode cX5_take 31 = .ok (.getfield 21, 3) := by decide +kernel
theorem dX5_take_34 : decode cX5_take 34 = .ok (.getfield 101, 3) := by decide +kernel
theorem dX5_take_37 : decode cX5_take 37 = .ok (.ifCond .ne 6, 3) := by decide +kernel
theorem dX5_take_40 : decode cX5_take 40 = .ok (.bipush (-5), 2) := by decide +kernel
theorem dX5_take_42 : decode cX5_take 42 = .ok (.ireturn, 1) := by decide +kernel
theorem dX5_take_43 : decode cX5_take 43 = .ok (.iload_n 1, 1) := by decide +kernel
theorem dX5_take_44 : decode cX5_take 44 = .ok (.ifCond .ne 13, 3) := by decide +kernel
theorem dX5_take_47 : decode cX5_take 47 = .ok (.aload_n 0, 1) := by decide +kernel
theorem dX5_take_48 : decode cX5_take 48 = .ok (.getfield 21, 3) := by decide +kernel
theorem dX5_take_51 : decode cX5_take 51 = .ok (.getfield 105, 3) := by decide +kernel
theorem dX5_take_54 : decode cX5_take 54 = .ok (.goto 25, 3) := by decide +kernel
theorem dX5_take_57 : decode cX5_take 57 = .ok (.iload_n 1, 1) := by decide +kernel
theorem dX5_take_58 : decode cX5_take 58 = .ok (.iconst 1, 1) := by decide +kernel
theorem dX5_take_59 : decode cX5_take 59 = .ok (.if_icmp .ne 13, 3) := by decide +kernel
theorem dX5_take_62 : decode cX5_take 62 = .ok (.aload_n 0, 1) := by decide +kernel
theorem dX5_take_63 : decode cX5_take 63 = .ok (.getfield 21, 3) := by decide +kernel
theorem dX5_take_66 : decode cX5_take 66 = .ok (.getfield 108, 3) := by decide +kernel
theorem dX5_take_69 : decode cX5_take 69 = .ok (.goto 10, 3) := by decide +kernel
theorem dX5_take_72 : decode cX5_take 72 = .ok (.aload_n 0, 1) := by decide +kernel
theorem dX5_take_73 : decode cX5_take 73 = .ok (.getfield 39, 3) := by decide +kernel
theorem dX5_take_76 : decode cX5_take 76 = .ok (.getfield 118, 3) := by decide +kernel
theorem dX5_take_79 : decode cX5_take 79 = .ok (.aload_n 0, 1) := by decide +kernel
theorem dX5_take_80 : decode cX5_take 80 = .ok (.getfield 50, 3) := by decide +kernel
theorem dX5_take_83 : decode cX5_take 83 = .ok (.invokestatic 121, 3) := by decide +kernel
theorem dX5_take_86 : decode cX5_take 86 = .ok (.iconst 1, 1) := by decide +kernel
theorem dX5_take_87 : decode cX5_take 87 = .ok (.ireturn, 1) := by decide +kernel
def rX5_take : Room := { frames := 2, cells := 0, slots := 0, locals := 60 }
theorem yk_X5_take : YK yX5_take cX5_take 2 (some .int) 1 := ⟨xim_X5_take, xse_X5_take, xin_X5, xco_X5_take, by decide +kernel⟩
set_option maxRecDepth 4000 in
theorem c_X5_take {l : Launch} {D : va_G} {t : Nat → ClassId} {a : Nat → Nat} {I : Nat → Int32} {F : Nat → Nat → Int32} {L : Nat → Int64} {K : Cfg} {sd : Int32} {hd : Nat → Nat} {dk : Bool} {dw : Nat → Nat} {mt : Int32} (hI : INV (K, sd, hd, dk, dw, mt)) (hX : RX (K, sd, hd, dk, dw, mt) I F) (x : Int32) : CT l D t yX5_take cX5_take 2 (some .int) rX5_take 0 0 [.ref (a 0), .int x] (WX a t I F L) (XO a t (opTake (K, sd, hd, dk, dw, mt) x)) := by
  refine CT.of (by decide +kernel) (by simp [lg_sl, Value.category]) (fun X C hR => ?_)
  refine xlocals (lv' := [(0, .ref (a 0)), (1, .int x)]) rfl ?_
  obtain ⟨hK, hsd, hHd, hdk, hdr, hgd, hHS, hLS⟩ := id hX
  have hW : WFK K := hI.1
  have hrg := hI.2.1
  have fn24 := hW.n24; have fm60 := hW.m60; have fk2 := hW.k2; have fu1 := hW.u1; have fu9 := hW.u9; have fv1 := hW.v1; have fv9 := hW.v9
  refine xiload_n C 1 rfl dX5_take_0 ?_
  refine xif_lt C 9 dX5_take_1 (by decide) (fun h1 => ?_) (fun h1 => ?_)
  ·
    refine xbipush (v := -2) C dX5_take_9 (by decide) ?_
    exact xret C hR (rfl) dX5_take_11 (XO.mk (by simp only [opTake]; rw [ci_t (Or.inl h1)]) hX)
  ·
    refine xiload_n C 1 rfl dX5_take_4 ?_
    refine xiconst (v := 2) C dX5_take_5 (by decide) ?_
    refine xicmp_le C 12 dX5_take_6 (by decide) (fun h6 => ?_) (fun h6 => ?_)
    ·
      refine xiload_n C 1 rfl dX5_take_12 ?_
      refine xiconst (v := 2) C dX5_take_13 (by decide) ?_
      refine xicmp_ne C 30 dX5_take_14 (by decide) (fun h14 => ?_) (fun h14 => ?_)
      ·
        refine xaload_n C 0 rfl dX5_take_30 ?_
        refine gX5_21 C dX5_take_31 ?_
        refine gX5_101 C dX5_take_34 ?_
        refine xtopi (y := nI (bn (GoodP K))) (hgd) ?_
        refine xif_neN C 43 dX5_take_37 (by decide) (bn_lt _) (fun h37 => ?_) (fun h37 => ?_)
        ·
          refine xiload_n C 1 rfl dX5_take_43 ?_
          refine xif_ne C 57 dX5_take_44 (by decide) (fun h44 => ?_) (fun h44 => ?_)
          ·
            refine xiload_n C 1 rfl dX5_take_57 ?_
            refine xiconst (v := 1) C dX5_take_58 (by decide) ?_
            refine xicmp_ne C 72 dX5_take_59 (by decide) (fun h59 => ?_) (fun h59 => ?_)
            ·
              exact absurd (show x = 2 from take2 h1 h6 h44 h59) h14
            ·
              refine xaload_n C 0 rfl dX5_take_62 ?_
              refine gX5_21 C dX5_take_63 ?_
              refine gX5_108 C dX5_take_66 ?_
              refine xgoto C 79 dX5_take_69 (by decide) ?_
              refine xaload_n C 0 rfl dX5_take_79 ?_
              refine gX5_50 C dX5_take_80 ?_
              refine xcSV C (c_X5_copyRow 7 12 (by decide) (by decide) (by decide) (by decide)) sk_X5_copyRow xml_X5_121 ⟨⟨Nat.le_of_ble_eq_true rfl, Nat.le_of_ble_eq_true rfl⟩, ⟨rfl, rfl⟩, ⟨Nat.zero_le _, Nat.zero_le _⟩⟩ rfl (Nat.le_of_ble_eq_true rfl) dX5_take_83 (fun wE hE => ?_)
              obtain ⟨FA, rfl, hFA, hFc⟩ := hE
              refine xiconst (v := nI 1) C dX5_take_86 (by decide) ?_
              exact xret C hR (rfl) dX5_take_87 (XO.mk (by simp only [opTake]; rw [ci_f (fun q => q.elim h1 (fun q => absurd q (Int32.not_lt.mpr h6))), ci_f (fun q => h14 q.1), ci_f (fun q => q (bn_1 h37)), ci_f h44, ci_t h59, nI_one]) (hX.hnd hFA (fun z hz => by rw [hFc z (by omega)]; exact hLS z hz)))
          ·
            refine xaload_n C 0 rfl dX5_take_47 ?_
            refine gX5_21 C dX5_take_48 ?_
            refine gX5_105 C dX5_take_51 ?_
            refine xgoto C 79 dX5_take_54 (by decide) ?_
            refine xaload_n C 0 rfl dX5_take_79 ?_
            refine gX5_50 C dX5_take_80 ?_
            refine xcSV C (c_X5_copyRow 6 12 (by decide) (by decide) (by decide) (by decide)) sk_X5_copyRow xml_X5_121 ⟨⟨Nat.le_of_ble_eq_true rfl, Nat.le_of_ble_eq_true rfl⟩, ⟨rfl, rfl⟩, ⟨Nat.zero_le _, Nat.zero_le _⟩⟩ rfl (Nat.le_of_ble_eq_true rfl) dX5_take_83 (fun wE hE => ?_)
            obtain ⟨FA, rfl, hFA, hFc⟩ := hE
            refine xiconst (v := nI 1) C dX5_take_86 (by decide) ?_
            exact xret C hR (rfl) dX5_take_87 (XO.mk (by simp only [opTake]; rw [ci_f (fun q => q.elim h1 (fun q => absurd q (Int32.not_lt.mpr h6))), ci_f (fun q => h14 q.1), ci_f (fun q => q (bn_1 h37)), ci_t h44, nI_one]) (hX.hnd hFA (fun z hz => by rw [hFc z (by omega)]; exact hHS z hz)))
        ·
          refine xbipush (v := -5) C dX5_take_40 (by decide) ?_
          exact xret C hR (rfl) dX5_take_42 (XO.mk (by simp only [opTake]; rw [ci_f (fun q => q.elim h1 (fun q => absurd q (Int32.not_lt.mpr h6))), ci_f (fun q => h14 q.1), ci_t (bn_0 h37)]) hX)
      ·
        refine xaload_n C 0 rfl dX5_take_17 ?_
        refine gX5_39 C dX5_take_18 ?_
        refine gX5_115 C dX5_take_21 ?_
        refine xtopi (y := nI (dkN dk)) (hdk) ?_
        have hdl := dkN_le dk
        refine xif_neN C 30 dX5_take_24 (by decide) (by omega) (fun h24 => ?_) (fun h24 => ?_)
        ·
          refine xaload_n C 0 rfl dX5_take_30 ?_
          refine gX5_21 C dX5_take_31 ?_
          refine gX5_101 C dX5_take_34 ?_
          refine xtopi (y := nI (bn (GoodP K))) (hgd) ?_
          refine xif_neN C 43 dX5_take_37 (by decide) (bn_lt _) (fun h37 => ?_) (fun h37 => ?_)
          ·
            refine xiload_n C 1 rfl dX5_take_43 ?_
            refine xif_ne C 57 dX5_take_44 (by decide) (fun h44 => ?_) (fun h44 => ?_)
            ·
              refine xiload_n C 1 rfl dX5_take_57 ?_
              refine xiconst (v := 1) C dX5_take_58 (by decide) ?_
              refine xicmp_ne C 72 dX5_take_59 (by decide) (fun h59 => ?_) (fun h59 => ?_)
              ·
                refine xaload_n C 0 rfl dX5_take_72 ?_
                refine gX5_39 C dX5_take_73 ?_
                refine gX5_118 C dX5_take_76 ?_
                refine xaload_n C 0 rfl dX5_take_79 ?_
                refine gX5_50 C dX5_take_80 ?_
                refine xcSV C (c_X5_copyRow 10 12 (by decide) (by decide) (by decide) (by decide)) sk_X5_copyRow xml_X5_121 ⟨⟨Nat.le_of_ble_eq_true rfl, Nat.le_of_ble_eq_true rfl⟩, ⟨rfl, rfl⟩, ⟨Nat.zero_le _, Nat.zero_le _⟩⟩ rfl (Nat.le_of_ble_eq_true rfl) dX5_take_83 (fun wE hE => ?_)
                obtain ⟨FA, rfl, hFA, hFc⟩ := hE
                refine xiconst (v := nI 1) C dX5_take_86 (by decide) ?_
                exact xret C hR (rfl) dX5_take_87 (XO.mk (by simp only [opTake]; rw [ci_f (fun q => q.elim h1 (fun q => absurd q (Int32.not_lt.mpr h6))), ci_f (fun q => by have := dk1 h24; rw [q.2] at this; cases this), ci_f (fun q => q (bn_1 h37)), ci_f h44, ci_f h59, nI_one]) (hX.hnd hFA (fun z hz => by rw [hFc z (by omega)]; exact (hdr (dk1 h24)).1 z hz)))
              ·
                refine xaload_n C 0 rfl dX5_take_62 ?_
                refine gX5_21 C dX5_take_63 ?_
                refine gX5_108 C dX5_take_66 ?_
                refine xgoto C 79 dX5_take_69 (by decide) ?_
                refine xaload_n C 0 rfl dX5_take_79 ?_
                refine gX5_50 C dX5_take_80 ?_
                refine xcSV C (c_X5_copyRow 7 12 (by decide) (by decide) (by decide) (by decide)) sk_X5_copyRow xml_X5_121 ⟨⟨Nat.le_of_ble_eq_true rfl, Nat.le_of_ble_eq_true rfl⟩, ⟨rfl, rfl⟩, ⟨Nat.zero_le _, Nat.zero_le _⟩⟩ rfl (Nat.le_of_ble_eq_true rfl) dX5_take_83 (fun wE hE => ?_)
                obtain ⟨FA, rfl, hFA, hFc⟩ := hE
                refine xiconst (v := nI 1) C dX5_take_86 (by decide) ?_
                exact xret C hR (rfl) dX5_take_87 (XO.mk (by simp only [opTake]; rw [ci_f (fun q => q.elim h1 (fun q => absurd q (Int32.not_lt.mpr h6))), ci_f (fun q => by have := dk1 h24; rw [q.2] at this; cases this), ci_f (fun q => q (bn_1 h37)), ci_f h44, ci_t h59, nI_one]) (hX.hnd hFA (fun z hz => by rw [hFc z (by omega)]; exact hLS z hz)))
            ·
              refine xaload_n C 0 rfl dX5_take_47 ?_
              refine gX5_21 C dX5_take_48 ?_
              refine gX5_105 C dX5_take_51 ?_
              refine xgoto C 79 dX5_take_54 (by decide) ?_
              refine xaload_n C 0 rfl dX5_take_79 ?_
              refine gX5_50 C dX5_take_80 ?_
              refine xcSV C (c_X5_copyRow 6 12 (by decide) (by decide) (by decide) (by decide)) sk_X5_copyRow xml_X5_121 ⟨⟨Nat.le_of_ble_eq_true rfl, Nat.le_of_ble_eq_true rfl⟩, ⟨rfl, rfl⟩, ⟨Nat.zero_le _, Nat.zero_le _⟩⟩ rfl (Nat.le_of_ble_eq_true rfl) dX5_take_83 (fun wE hE => ?_)
              obtain ⟨FA, rfl, hFA, hFc⟩ := hE
              refine xiconst (v := nI 1) C dX5_take_86 (by decide) ?_
              exact xret C hR (rfl) dX5_take_87 (XO.mk (by simp only [opTake]; rw [ci_f (fun q => q.elim h1 (fun q => absurd q (Int32.not_lt.mpr h6))), ci_f (fun q => by have := dk1 h24; rw [q.2] at this; cases this), ci_f (fun q => q (bn_1 h37)), ci_t h44, nI_one]) (hX.hnd hFA (fun z hz => by rw [hFc z (by omega)]; exact hHS z hz)))
          ·
            refine xbipush (v := -5) C dX5_take_40 (by decide) ?_
            exact xret C hR (rfl) dX5_take_42 (XO.mk (by simp only [opTake]; rw [ci_f (fun q => q.elim h1 (fun q => absurd q (Int32.not_lt.mpr h6))), ci_f (fun q => by have := dk1 h24; rw [q.2] at this; cases this), ci_t (bn_0 h37)]) hX)
        ·
          refine xbipush (v := -3) C dX5_take_27 (by decide) ?_
          exact xret C hR (rfl) dX5_take_29 (XO.mk (by simp only [opTake]; rw [ci_f (fun q => q.elim h1 (fun q => absurd q (Int32.not_lt.mpr h6))), ci_t ⟨h14, dk0 h24⟩]) hX)
    ·
      refine xbipush (v := -2) C dX5_take_9 (by decide) ?_
      exact xret C hR (rfl) dX5_take_11 (XO.mk (by simp only [opTake]; rw [ci_t (Or.inr (Int32.not_le.mp h6))]) hX)
theorem dX5_seed_0 : decode cX5_seed 0 = .ok (.aload_n 0, 1) := by decide +kernel
theorem dX5_seed_1 : decode cX5_seed 1 = .ok (.getfield 54, 3) := by decide +kernel
theorem dX5_seed_4 : decode cX5_seed 4 = .ok (.istore_n 2, 1) := by decide +kernel
theorem dX5_seed_5 : decode cX5_seed 5 = .ok (.aload_n 0, 1) := by decide +kernel
theorem dX5_seed_6 : decode cX5_seed 6 = .ok (.iload_n 1, 1) := by decide +kernel
theorem dX5_seed_7 : decode cX5_seed 7 = .ok (.putfield 54, 3) := by decide +kernel
theorem dX5_seed_10 : decode cX5_seed 10 = .ok (.iload_n 2, 1) := by decide +kernel
theorem dX5_seed_11 : decode cX5_seed 11 = .ok (.ireturn, 1) := by decide +kernel
def rX5_seed : Room := { frames := 0, cells := 0, slots := 0, locals := 0 }
theorem yk_X5_seed : YK yX5_seed cX5_seed 3 (some .int) 1 := ⟨xim_X5_seed, xse_X5_seed, xin_X5, xco_X5_seed, by decide +kernel⟩
set_option maxRecDepth 4000 in
theorem c_X5_seed {l : Launch} {D : va_G} {t : Nat → ClassId} {a : Nat → Nat} {I : Nat → Int32} {F : Nat → Nat → Int32} {L : Nat → Int64} {K : Cfg} {sd : Int32} {hd : Nat → Nat} {dk : Bool} {dw : Nat → Nat} {mt : Int32} (hI : INV (K, sd, hd, dk, dw, mt)) (hX : RX (K, sd, hd, dk, dw, mt) I F) (x : Int32) : CT l D t yX5_seed cX5_seed 3 (some .int) rX5_seed 0 0 [.ref (a 0), .int x] (WX a t I F L) (XO a t (opSeed (K, sd, hd, dk, dw, mt) x)) := by
  refine CT.of (by decide +kernel) (by simp [lg_sl, Value.category]) (fun X C hR => ?_)
  refine xlocals (lv' := [(0, .ref (a 0)), (1, .int x)]) rfl ?_
  obtain ⟨hK, hsd, hHd, hdk, hdr, hgd, hHS, hLS⟩ := id hX
  have hW : WFK K := hI.1
  have hrg := hI.2.1
  have fn24 := hW.n24; have fm60 := hW.m60; have fk2 := hW.k2; have fu1 := hW.u1; have fu9 := hW.u9; have fv1 := hW.v1; have fv9 := hW.v9
  refine xaload_n C 0 rfl dX5_seed_0 ?_
  refine gX5_54 C dX5_seed_1 ?_
  refine xtopi (y := sd) (hsd) ?_
  refine xistore_n (lv' := [(2, .int sd), (0, .ref (a 0)), (1, .int x)]) C dX5_seed_4 (by decide) rfl ?_
  refine xaload_n C 1 rfl dX5_seed_5 ?_
  refine xiload_n C 2 rfl dX5_seed_6 ?_
  refine pX5_54 C dX5_seed_7 ?_
  obtain ⟨IA, eIA⟩ : ∃ z : Nat → Int32, z = va_up I 10 x := ⟨_, rfl⟩
  refine xworld (ws' := WX a t IA F L) (by rw [eIA]) ?_
  refine xiload_n C 0 rfl dX5_seed_10 ?_
  exact xret C hR (rfl) dX5_seed_11 (XO.mk (by simp only [opSeed]) (hX.seed eIA))
