/-! What holds between two calls is kept by each call. -/
theorem fst_min {P : Nat → Prop} : ∀ {k i : Nat}, fst P k = some i → ∀ j, j < i → ¬ P j
  | 0, i, h => by cases h
  | k + 1, i, h => by
    unfold fst at h
    cases e : fst P k with
    | some j =>
      rw [e] at h
      cases h
      exact fst_min e
    | none =>
      rw [e] at h
      by_cases q : bn (P k) = 1
      · simp only [if_pos q] at h
        cases h
        intro j hj hp
        have hs : ∃ m, fst P k = some m := by
          obtain ⟨m, hm, hmin⟩ := ex_min (P := P) (fun x => x) j j (Nat.le_refl _) hp
          exact ⟨m, fst_some hm (fun x hx hxp => by have := hmin x hxp; omega) (by have := hmin j hp; omega)⟩
        obtain ⟨m, hm⟩ := hs
        rw [hm] at e
        cases e
      · simp only [if_neg q] at h
        cases h
theorem lw_sym (K : Cfg) (x y : Nat) : lwN K x y = lwN K y x := by
  unfold lwN
  by_cases h : kk K = 0
  · rw [if_pos h, if_pos h]
    by_cases e : x = y
    · rw [e]
    · rw [if_neg e, if_neg (fun q => e q.symm)]
  · rw [if_neg h, if_neg h]
    by_cases h1 : kk K = 1
    · rw [if_pos h1, if_pos h1]
      by_cases e : x ≤ y + 1 ∧ y ≤ x + 1
      · rw [if_pos e, if_pos ⟨e.2, e.1⟩]
      · rw [if_neg e, if_neg (fun q => e ⟨q.2, q.1⟩)]
    · rw [if_neg h1, if_neg h1]
      by_cases e : x = 1 ∧ y = 1
      · rw [if_pos e, if_pos ⟨e.2, e.1⟩]
      · rw [if_neg e, if_neg (fun q => e ⟨q.2, q.1⟩)]
theorem ch_ok {K : Cfg} {f : Nat → Nat} {p lot : Nat} : chN K f p lot = f p ∨ waN K f p (chN K f p lot) ≠ 0 := by
  unfold chN
  cases e : fst (fun h => lot * sm (whN K f p) (mostN K p + 1) < 65536 * sm (whN K f p) (h + 1)) (mostN K p + 1) with
  | none => exact Or.inl rfl
  | some h =>
    refine Or.inr ?_
    show whN K f p h ≠ 0
    intro hz
    have h1 := (fst_lt e).2
    have h2 := fst_min e
    have h3 : sm (whN K f p) (h + 1) = sm (whN K f p) h := by show sm (whN K f p) h + whN K f p h = _; omega
    rw [h3] at h1
    cases h with
    | zero => have h4 : sm (whN K f p) 0 = 0 := rfl
              omega
    | succ j => exact h2 j (by omega) h1
theorem al_up {K : Cfg} (hW : WFK K) {f : Nat → Nat} (h : alP K f) {p x : Nat} (hx : waN K f p x ≠ 0) : alP K (va_up f p x) := by
  have h1 : pwN K p x ≠ 0 := fun q => hx (by unfold waN; rw [q, Nat.zero_mul])
  have h2 := pr_zero.mp (fun q => hx (by unfold waN; rw [q, Nat.mul_zero]) : pr (fun i => lwN K x (f (knb K p i))) (kdg K p) ≠ 0)
  refine ⟨fun q hq => ?_, fun k hk => ?_⟩
  · by_cases e : q = p
    · subst e; rw [va_up_self]; exact h1
    · rw [va_up_ne _ _ e]; exact h.1 q hq
  · obtain ⟨_, _, hne, ⟨i, hi, hi2⟩, ⟨j, hj, hj2⟩⟩ := hW.lk hk
    by_cases e : kla K k = p
    · rw [e, va_up_self, va_up_ne _ _ (fun q => hne (e.trans q.symm))]
      rw [e] at hi hi2
      have := h2 i hi
      rw [hi2] at this
      exact this
    · rw [va_up_ne _ _ e]
      by_cases e2 : klb K k = p
      · rw [e2, va_up_self, lw_sym]
        rw [e2] at hj hj2
        have := h2 j hj
        rw [hj2] at this
        exact this
      · rw [va_up_ne _ _ e2]; exact h.2 k hk
theorem al_tk {K : Cfg} (hW : WFK K) {f : Nat → Nat} (h : alP K f) (sd tt : Int32) : alP K (tkN K sd f tt) := by
  rcases ch_ok (K := K) (f := f) (p := plN K (mixI sd tt)) (lot := lotN (mixI sd tt)) with e | e
  · rw [tk_same (fun q => q e)]; exact h
  · exact al_up hW h e
theorem al_it {K : Cfg} (hW : WFK K) {f : Nat → Nat} {sd tt : Int32} (h : alP K f) : ∀ k, alP K (itN K sd f tt k)
  | 0 => h
  | k + 1 => al_tk hW (al_it hW h k) sd _
theorem most_top {K : Cfg} (hW : WFK K) {p : Nat} (hp : p < kn K) : mostN K p ≤ ktop K p := by
  have := (hW.pl hp).1
  unfold mostN
  split <;> omega
theorem al_top {K : Cfg} (hW : WFK K) {f : Nat → Nat} (h : alP K f) {p : Nat} (hp : p < kn K) : f p ≤ ktop K p := Nat.le_trans (al_most h hp) (most_top hW hp)
theorem hS_top {K : Cfg} (hW : WFK K) (hk : kk K = 1) {p : Nat} (hp : p < kn K) : hS K p ≤ ktop K p := by
  have h1 : hS K p ≤ h0 K p := by unfold hS; rw [if_pos hk]; exact rrH_le K _ _ p
  have h2 : h0 K p ≤ ktop K p := by
    have := (hW.pl hp).2.2.2
    unfold h0
    split
    · omega
    · unfold nohN mostN
      rw [if_neg (by omega), if_pos hk]
      exact Nat.le_refl _
  omega
theorem al_1 {K : Cfg} {f : Nat → Nat} (hk : kk K = 1) (ht : ∀ p, p < kn K → f p ≤ ktop K p) (hh : HE K f) (hf : feasP K f) : alP K f := by
  refine ⟨fun p hp => (pw_1 hk (ht p hp)).mpr ?_, fun k hkm => (lw_1 hk).mpr (hf k hkm)⟩
  by_cases e : khd K p = 0
  · exact Or.inl e
  · exact Or.inr (hh hk p hp e)
theorem al_hS {K : Cfg} (hW : WFK K) (hg : GoodP K) : alP K (hS K) := by
  by_cases hk : kk K = 1
  · exact al_1 hk (fun p hp => hS_top hW hk hp) (HE_hS hW hg) (hS_feas hW hk)
  · have e : hS K = h0 K := by unfold hS; rw [if_neg hk]
    rw [e]
    by_cases h0' : kk K = 0
    · refine ⟨fun p hp => (pw_02 hW hk).mpr (by rw [← h0_k0 h0']; omega), fun k _ => lw_0 hW h0'⟩
    · have h2 : kk K = 2 := by have := hW.k2; omega
      refine ⟨fun p hp => (pw_02 hW hk).mpr (by rw [← h0_k2 h2 (hW.si1 hp)]; omega), fun k hkm => (lw_2 h2).mpr (fun q => ?_)⟩
      rw [← h0_k2 h2 (hW.si1 (hW.la hkm)), ← h0_k2 h2 (hW.si1 (hW.lb hkm))] at q
      have := ((good2 h2 rfl).mpr hg).2 k hkm
      have := hW.si1 (hW.la hkm)
      have := hW.si1 (hW.lb hkm)
      omega
theorem al_lS {K : Cfg} (hW : WFK K) (hg : GoodP K) : alP K (lS K) := by
  by_cases hk : kk K = 1
  · exact al_1 hk (fun p hp => Nat.le_trans (lS_hS hg hk hp) (hS_top hW hk hp)) (HE_lS hW hg) (lS_feas hW hk)
  · have e : lS K = l0 K := by unfold lS; rw [if_neg hk]
    rw [e]
    by_cases h0' : kk K = 0
    · refine ⟨fun p hp => (pw_02 hW hk).mpr (by rw [← l0_k0 h0']; omega), fun k _ => lw_0 hW h0'⟩
    · have h2 : kk K = 2 := by have := hW.k2; omega
      refine ⟨fun p hp => (pw_02 hW hk).mpr (by rw [← l0_k2 h2 (hW.si1 hp)]; have := hW.si1 hp; omega), fun k hkm => (lw_2 h2).mpr (fun q => ?_)⟩
      rw [← l0_k2 h2 (hW.si1 (hW.la hkm)), ← l0_k2 h2 (hW.si1 (hW.lb hkm))] at q
      have := ((good2 h2 rfl).mpr hg).2 k hkm
      omega
theorem INV_fresh {K : Cfg} (hW : WFK K) (sd : Int32) : INV (freshA K sd) := by
  refine ⟨hW, fun p hp => ?_, fun hg => ?_, fun h => by cases h⟩
  · show ci (GoodP K) (lS K p) 0 ≤ ktop K p
    rcases Classical.em (GoodP K) with h | h
    · rw [ci_t h]; exact al_top hW (al_lS hW h) hp
    · rw [ci_f h]; omega
  · have e : (fun p => ci (GoodP K) (lS K p) 0) = lS K := by funext p; exact ci_t hg
    show alP K (fun p => ci (GoodP K) (lS K p) 0)
    rw [e]
    exact al_lS hW hg
section
variable {K : Cfg} {sd : Int32} {hd : Nat → Nat} {dk : Bool} {dw : Nat → Nat} {mt : Int32}
theorem ci_inv {P : Prop} {x y : Value × Abs} (hx : P → INV x.2) (hy : ¬ P → INV y.2) : INV (ci P x y).2 := by
  rcases Classical.em P with h | h
  · rw [ci_t h]; exact hx h
  · rw [ci_f h]; exact hy h
theorem iv_place (h : INV (K, sd, hd, dk, dw, mt)) (x y : Int32) : INV (opPlace (K, sd, hd, dk, dw, mt) x y).2 := by
  refine ci_inv (fun _ => h) (fun h1 => ci_inv (fun _ => h) (fun h2 => ?_))
  obtain ⟨p, hp1, hp5, rfl⟩ := box15 (fun q => h1 (Or.inl q)) (fun q => h1 (Or.inr (Or.inl q)))
  obtain ⟨q, hq1, rfl⟩ := box01 (fun q => h1 (Or.inr (Or.inr (Or.inl q)))) (fun q => h1 (Or.inr (Or.inr (Or.inr q))))
  rw [show cl (nI p) = p from nI_clamp (by omega), show cl (nI q) = q from nI_clamp (by omega)]
  exact INV_fresh (h.1.addP hp1 hp5 hq1 (by omega)) sd
theorem iv_link (h : INV (K, sd, hd, dk, dw, mt)) (x y : Int32) : INV (opLink (K, sd, hd, dk, dw, mt) x y).2 := by
  refine ci_inv (fun _ => h) (fun h1 => ci_inv (fun _ => h) (fun h2 => ci_inv (fun _ => h) (fun h3 => ?_)))
  have hW : WFK K := h.1
  have hn := hW.n24
  obtain ⟨p, hp, rfl⟩ := (Classical.byContradiction (fun q => h1 (Or.inl q)) : hasP K x).nat hW
  obtain ⟨q, hq, rfl⟩ := (Classical.byContradiction (fun q => h1 (Or.inr q)) : hasP K y).nat hW
  rw [show cl (nI p) = p from nI_clamp (by omega), show cl (nI q) = q from nI_clamp (by omega)] at h2
  rw [show cl (nI p) = p from nI_clamp (by omega), show cl (nI q) = q from nI_clamp (by omega)]
  exact INV_fresh (hW.addL (by omega) hp hq (fun e => h3 (Or.inl (by rw [e]))) (by omega) (by omega)) sd
theorem iv_kind (h : INV (K, sd, hd, dk, dw, mt)) (x y z : Int32) : INV (opKind (K, sd, hd, dk, dw, mt) x y z).2 := by
  refine ci_inv (fun _ => h) (fun h1 => ?_)
  obtain ⟨p, hp2, rfl⟩ := box02 (fun q => h1 (Or.inl q)) (fun q => h1 (Or.inr (Or.inl q)))
  obtain ⟨q, hq1, hq9, rfl⟩ := box19 (fun q => h1 (Or.inr (Or.inr (Or.inl q)))) (fun q => h1 (Or.inr (Or.inr (Or.inr (Or.inl q)))))
  obtain ⟨r, hr1, hr9, rfl⟩ := box19 (fun q => h1 (Or.inr (Or.inr (Or.inr (Or.inr (Or.inl q)))))) (fun q => h1 (Or.inr (Or.inr (Or.inr (Or.inr (Or.inr q))))))
  rw [show cl (nI p) = p from nI_clamp (by omega), show cl (nI q) = q from nI_clamp (by omega), show cl (nI r) = r from nI_clamp (by omega)]
  exact INV_fresh (h.1.setK hp2 hq1 hq9 hr1 hr9) sd
theorem iv_hold (h : INV (K, sd, hd, dk, dw, mt)) (x y : Int32) : INV (opHold (K, sd, hd, dk, dw, mt) x y).2 := by
  refine ci_inv (fun _ => h) (fun h1 => ci_inv (fun _ => h) (fun h2 => ?_))
  have hW : WFK K := h.1
  have hn := hW.n24
  obtain ⟨p, hp, rfl⟩ := (Classical.byContradiction h1 : hasP K x).nat hW
  rw [show cl (nI p) = p from nI_clamp (by omega)] at h2
  obtain ⟨q, hq, hy0, hy1⟩ := boxH (hW.top5 hp) (fun q => h2 (Or.inl q)) (fun q => h2 (Or.inr q))
  have ht := hW.top5 hp
  rw [show cl (nI p) = p from nI_clamp (by omega), show cl (y + 1) = q from by rw [hy1]; exact nI_clamp (by omega)]
  exact INV_fresh (hW.setH hp hq) sd
theorem iv_good (h : INV (K, sd, hd, dk, dw, mt)) : INV (opGood (K, sd, hd, dk, dw, mt)).2 := h
theorem iv_high (h : INV (K, sd, hd, dk, dw, mt)) (x : Int32) : INV (opHigh (K, sd, hd, dk, dw, mt) x).2 := ci_inv (fun _ => h) (fun _ => ci_inv (fun _ => h) (fun _ => h))
theorem iv_low (h : INV (K, sd, hd, dk, dw, mt)) (x : Int32) : INV (opLow (K, sd, hd, dk, dw, mt) x).2 := ci_inv (fun _ => h) (fun _ => ci_inv (fun _ => h) (fun _ => h))
theorem iv_at (h : INV (K, sd, hd, dk, dw, mt)) (x : Int32) : INV (opAt (K, sd, hd, dk, dw, mt) x).2 := ci_inv (fun _ => h) (fun _ => h)
theorem iv_hnd {hd' : Nat → Nat} (h : INV (K, sd, hd, dk, dw, mt)) (ha : alP K hd') : INV (K, sd, hd', dk, dw, mt) := ⟨h.1, fun p hp => al_top h.1 ha hp, fun _ => ha, h.2.2.2⟩
theorem iv_put (h : INV (K, sd, hd, dk, dw, mt)) (x y : Int32) : INV (opPut (K, sd, hd, dk, dw, mt) x y).2 :=
  ci_inv (fun _ => h) (fun _ => ci_inv (fun _ => h) (fun _ => ci_inv (fun _ => h) (fun h3 => iv_hnd h (Classical.byContradiction h3))))
theorem iv_take (h : INV (K, sd, hd, dk, dw, mt)) (x : Int32) : INV (opTake (K, sd, hd, dk, dw, mt) x).2 := by
  refine ci_inv (fun _ => h) (fun h1 => ci_inv (fun _ => h) (fun h2 => ci_inv (fun _ => h) (fun h3 => iv_hnd h ?_)))
  have hg : GoodP K := Classical.byContradiction h3
  rcases Classical.em (x = 0) with e | e
  · rw [ci_t e]; exact al_hS h.1 hg
  · rw [ci_f e]
    rcases Classical.em (x = 1) with e1 | e1
    · rw [ci_t e1]; exact al_lS h.1 hg
    · rw [ci_f e1]
      have e2 : x = 2 := Classical.byContradiction (fun q => e1 (take1 (fun z => h1 (Or.inl z)) (fun z => h1 (Or.inr z)) q e))
      cases hdk : dk with
      | false => exact absurd ⟨e2, hdk⟩ h2
      | true => exact (h.2.2.2 hdk).2.1
theorem iv_seed (h : INV (K, sd, hd, dk, dw, mt)) (x : Int32) : INV (opSeed (K, sd, hd, dk, dw, mt) x).2 := h
theorem iv_tick (h : INV (K, sd, hd, dk, dw, mt)) (x y : Int32) : INV (opTick (K, sd, hd, dk, dw, mt) x y).2 := ci_inv (fun _ => h) (fun _ => ci_inv (fun _ => h) (fun _ => h))
theorem iv_run (h : INV (K, sd, hd, dk, dw, mt)) (x y : Int32) : INV (opRun (K, sd, hd, dk, dw, mt) x y).2 :=
  ci_inv (fun _ => h) (fun _ => ci_inv (fun _ => h) (fun h3 => iv_hnd h (al_it h.1 (h.2.2.1 (Classical.byContradiction h3)) _)))
theorem iv_gap (h : INV (K, sd, hd, dk, dw, mt)) (x : Int32) : INV (opGap (K, sd, hd, dk, dw, mt) x).2 := ci_inv (fun _ => h) (fun _ => ci_inv (fun _ => h) (fun _ => h))
theorem iv_draw (h : INV (K, sd, hd, dk, dw, mt)) : INV (opDraw (K, sd, hd, dk, dw, mt)).2 := by
  refine ci_inv (fun _ => h) (fun h3 => ?_)
  have hg : GoodP K := Classical.byContradiction h3
  cases farN K sd with
  | none => exact h
  | some e =>
    have ha := al_it (sd := sd) (tt := -nI (2 ^ e)) h.1 (al_lS h.1 hg) (2 ^ e)
    exact ⟨h.1, h.2.1, h.2.2.1, fun _ => ⟨hg, ha, fun p hp => al_top h.1 ha hp⟩⟩
theorem iv_drawn (h : INV (K, sd, hd, dk, dw, mt)) (x : Int32) : INV (opDrawn (K, sd, hd, dk, dw, mt) x).2 := ci_inv (fun _ => h) (fun _ => ci_inv (fun _ => h) (fun _ => h))
theorem iv_met (h : INV (K, sd, hd, dk, dw, mt)) : INV (opMet (K, sd, hd, dk, dw, mt)).2 := h
theorem iv_tally (h : INV (K, sd, hd, dk, dw, mt)) (x y z : Int32) : INV (opTally (K, sd, hd, dk, dw, mt) x y z).2 := by
  refine ci_inv (fun _ => h) (fun _ => ci_inv (fun _ => h) (fun _ => ci_inv (fun _ => h) (fun _ => ?_)))
  cases tlN K y (cl x) (cl z) <;> exact h
theorem iv_many (h : INV (K, sd, hd, dk, dw, mt)) : INV (opMany (K, sd, hd, dk, dw, mt)).2 := ci_inv (fun _ => h) (fun _ => ci_inv (fun _ => h) (fun _ => h))
theorem iv_all (h : INV (K, sd, hd, dk, dw, mt)) : INV (opAll (K, sd, hd, dk, dw, mt)).2 := ci_inv (fun _ => h) (fun _ => ci_inv (fun _ => h) (fun _ => h))
theorem iv_chance (h : INV (K, sd, hd, dk, dw, mt)) (y : Int32) : INV (opChance (K, sd, hd, dk, dw, mt) y).2 := ci_inv (fun _ => h) (fun _ => ci_inv (fun _ => h) (fun _ => ci_inv (fun _ => h) (fun _ => h)))
theorem iv_mean (h : INV (K, sd, hd, dk, dw, mt)) (x y : Int32) : INV (opMean (K, sd, hd, dk, dw, mt) x y).2 := ci_inv (fun _ => h) (fun _ => ci_inv (fun _ => h) (fun _ => ci_inv (fun _ => h) (fun _ => ci_inv (fun _ => h) (fun _ => h))))
theorem iv_alike (h : INV (K, sd, hd, dk, dw, mt)) (x z y : Int32) : INV (opAlike (K, sd, hd, dk, dw, mt) x z y).2 := ci_inv (fun _ => h) (fun _ => ci_inv (fun _ => h) (fun _ => ci_inv (fun _ => h) (fun _ => ci_inv (fun _ => h) (fun _ => h))))
theorem iv_told (h : INV (K, sd, hd, dk, dw, mt)) (x : Int32) : INV (opTold (K, sd, hd, dk, dw, mt) x).2 := h
theorem iv_about (h : INV (K, sd, hd, dk, dw, mt)) (x y : Int32) : INV (opAbout (K, sd, hd, dk, dw, mt) x y).2 := ci_inv (fun _ => h) (fun _ => h)
end
/-- the system of a new object -/
def K0 : Cfg := (0, 0, 0, 1, 1, fun _ => 0, fun _ => 0, fun _ => 0, fun _ => 0, fun _ => 0, fun _ => 0, fun _ _ => 0)
theorem WFK_0 : WFK K0 := ⟨by decide, by decide, by decide, by decide, by decide, fun p hp => absurd hp (Nat.not_lt_zero _), fun p => Nat.zero_le _, fun p _ => rfl, fun p i hp => absurd hp (Nat.not_lt_zero _), fun k hk => absurd hk (Nat.not_lt_zero _)⟩
theorem not_Good0 : ¬ GoodP K0 := fun h => absurd h.1 (Nat.lt_irrefl 0)
