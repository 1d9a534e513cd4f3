/-! The reference, 5: small systems, told, about (written by my program parts_m5.py). -/
theorem gN_1 {K : Cfg} {i : Nat} (h : kk K = 1) : ktop K i + 1 = gN K i := by unfold gN; rw [most_1 h]
theorem gN_n {K : Cfg} {i : Nat} (h : ¬ kk K = 1) : 2 = gN K i := by unfold gN; rw [← most_n h]
theorem pr_30 {K : Cfg} (hW : WFK K) {i : Nat} (hi : i < kn K) (h : pr (gN K) i ≤ 5000) : pr (gN K) (i + 1) ≤ 30000 := by
  have h1 : gN K i ≤ 6 := by have := mostN_le hW hi; unfold gN; omega
  exact Nat.mul_le_mul h h1
theorem pr_over {K : Cfg} {i n : Nat} (hi : i ≤ n) (h : 5000 < pr (gN K) i) : pr (gN K) i ≤ 5000 ↔ pr (gN K) n ≤ 5000 := by
  obtain ⟨c, hc⟩ := pr_split (gN K) i (n - i)
  rw [show i + (n - i) = n by omega] at hc
  have h0 := pr_pos (gN_pos K) n
  have hc0 : 0 < c := by
    rcases Nat.eq_zero_or_pos c with e | e
    · rw [e, Nat.mul_zero] at hc; omega
    · exact e
  have h1 : pr (gN K) i * 1 ≤ pr (gN K) i * c := Nat.mul_le_mul (Nat.le_refl _) hc0
  omega
theorem dg0z (K : Cfg) (p : Nat) : dgN K 0 p = 0 := by unfold dgN; rw [Nat.zero_div, Nat.zero_mod]
theorem odo_end {K : Cfg} {i q : Nat} (hm : (i + 1) % pr (gN K) q = 0) (hi : i < stN K) (hq : q = kn K) : ¬ i + 1 < stN K := by
  subst hq
  intro h
  have h1 : (i + 1) % stN K = 0 := hm
  rw [Nat.mod_eq_of_lt h] at h1
  omega
theorem odo_more {K : Cfg} {i q : Nat} (hm : (i + 1) % pr (gN K) q = 0) (hi : i < stN K) (hq : q < kn K) (hd : dgN K i q < mostN K q) : i + 1 < stN K := by
  rcases Nat.lt_or_ge (i + 1) (stN K) with h | h
  · exact h
  · exfalso
    have e : i + 1 = stN K := by omega
    have h1 := odo_div hm
    obtain ⟨c, hc⟩ := pr_split1 (gN K) hq
    have hp := pr_pos (gN_pos K) q
    rw [e, show stN K = pr (gN K) (kn K) from rfl, hc, Nat.mul_div_cancel_left _ hp] at h1
    have hg : gN K q = mostN K q + 1 := rfl
    have hc0 : 0 < c := by
      rcases Nat.eq_zero_or_pos c with e | e
      · rw [e, Nat.mul_zero] at h1; exact absurd h1 (Nat.succ_ne_zero _).symm
      · exact e
    obtain ⟨d, rfl⟩ : ∃ d, c = d + 1 := ⟨c - 1, by omega⟩
    have h2 : i / pr (gN K) q = gN K q * d + mostN K q := by
      rw [Nat.mul_add, Nat.mul_one, hg] at h1
      rw [hg]
      exact (Nat.succ.inj h1).symm
    unfold dgN at hd
    rw [h2, Nat.mul_add_mod, Nat.mod_eq_of_lt (by omega)] at hd
    omega
theorem wstep1 {g : Nat → Nat} {i c : Nat} (h : g i = c) : lN (pr g i * c) = lN (pr g (i + 1)) := by subst h; rfl
theorem pw_2 {K : Cfg} {f : Nat → Nat} (hal : alP K f) {p c : Nat} (h : kk K = 2) (hp : p < kn K) (hc : (if f p = 1 then ku K else kv K) = c) : pwN K p (f p) = c := by
  rw [pw_free (al_most hal hp) (by omega), if_pos h]
  exact hc
theorem pr_ones {g : Nat → Nat} : ∀ {k : Nat}, (∀ j, j < k → g j = 1) → pr g k = 1
  | 0, _ => rfl
  | k + 1, h => by show pr g k * g k = 1; rw [pr_ones (fun j hj => h j (by omega)), h k (by omega)]
theorem wt_al {K : Cfg} {f : Nat → Nat} {k i : Nat} (hal : alP K f) (h1 : k = 0 ∨ kk K = 0) (h1e : k = km K ∨ ¬ kk K = 0) (h2 : i = 0 ∨ kk K = 2) (h2e : i = kn K ∨ ¬ kk K = 2) : pr (fun k => lwN K (f (kla K k)) (f (klb K k))) k * pr (fun p => pwN K p (f p)) i = woN K f := by
  have hA : pr (fun k => lwN K (f (kla K k)) (f (klb K k))) k = pr (fun k => lwN K (f (kla K k)) (f (klb K k))) (km K) := by
    rcases h1e with e | e
    · rw [e]
    · rw [show k = 0 by omega, pr_ones (k := km K)]
      · rfl
      · intro j hj
        have h3 := hal.2 j hj
        revert h3
        show lwN K (f (kla K j)) (f (klb K j)) ≠ 0 → lwN K (f (kla K j)) (f (klb K j)) = 1
        unfold lwN
        rw [if_neg e]
        intro h3
        split at h3 <;> split at h3 <;> first | (simp_all; done) | omega
  have hB : pr (fun p => pwN K p (f p)) i = pr (fun p => pwN K p (f p)) (kn K) := by
    rcases h2e with e | e
    · rw [e]
    · rw [show i = 0 by omega, pr_ones (k := kn K)]
      · rfl
      · intro j hj
        have h3 := hal.1 j hj
        revert h3
        show pwN K j (f j) ≠ 0 → pwN K j (f j) = 1
        unfold pwN
        rw [if_neg e]
        intro h3
        split at h3
        · exact absurd rfl h3
        · next q => rw [if_neg q]
  rw [hA, hB, Nat.mul_comm]
  rfl
theorem dg_most {K : Cfg} {x p : Nat} : dgN K x p ≤ mostN K p := by
  have : dgN K x p < gN K p := Nat.mod_lt _ (gN_pos K p)
  unfold gN at this
  omega
theorem dg_top {K : Cfg} (hW : WFK K) {x p : Nat} (hp : p < kn K) : dgN K x p ≤ ktop K p := by
  have h1 := dg_most (K := K) (x := x) (p := p)
  have h2 := (hW.pl hp).1
  unfold mostN at h1
  split at h1 <;> omega
theorem ov_s {K : Cfg} {w p q x c : Nat} (h : trN K w p q (dgN K x) = c) : lN (sm (fun i => trN K w p q (dgN K i)) x + c) = lN (sm (fun i => trN K w p q (dgN K i)) (x + 1)) := by subst h; rfl
theorem ov_0 {K : Cfg} {w p q x : Nat} (h : w = 0) (ha : alP K (dgN K x)) : lN (sm (fun i => trN K w p q (dgN K i)) x + 1) = lN (sm (fun i => trN K w p q (dgN K i)) (x + 1)) := ov_s (by subst h; exact bn_t (woN_al.mpr ha))
theorem ov_1 {K : Cfg} {w p q x : Nat} (h : w = 1) : lN (sm (fun i => trN K w p q (dgN K i)) x + woN K (dgN K x)) = lN (sm (fun i => trN K w p q (dgN K i)) (x + 1)) := ov_s (by subst h; rfl)
theorem ov_2 {K : Cfg} {w p q x : Nat} (h : w = 2) : lN (sm (fun i => trN K w p q (dgN K i)) x + woN K (dgN K x) * dgN K x p) = lN (sm (fun i => trN K w p q (dgN K i)) (x + 1)) := ov_s (by subst h; rfl)
theorem ov_3 {K : Cfg} {w p q x : Nat} (h : w = 3) (e : dgN K x p = dgN K x q) : lN (sm (fun i => trN K w p q (dgN K i)) x + woN K (dgN K x)) = lN (sm (fun i => trN K w p q (dgN K i)) (x + 1)) := ov_s (by subst h; exact if_pos e)
theorem ov_3n {K : Cfg} {w p q x : Nat} (h : w = 3) (e : ¬ dgN K x p = dgN K x q) : lN (sm (fun i => trN K w p q (dgN K i)) x + 0) = lN (sm (fun i => trN K w p q (dgN K i)) (x + 1)) := ov_s (by subst h; exact if_neg e)
theorem ov_no {K : Cfg} {w p q x : Nat} (h : ¬ alP K (dgN K x)) : sm (fun i => trN K w p q (dgN K i)) (x + 1) = sm (fun i => trN K w p q (dgN K i)) x := by
  have h0 : woN K (dgN K x) = 0 := Classical.byContradiction (fun q => h (woN_al.mp q))
  show sm (fun i => trN K w p q (dgN K i)) x + trN K w p q (dgN K x) = _
  have : trN K w p q (dgN K x) = 0 := by
    unfold trN
    split
    · exact bn_f (fun q => q h0)
    · exact h0
    · rw [h0, Nat.zero_mul]
    · split
      · exact h0
      · rfl
  omega
theorem dX6_states_0 : decode cX6_states 0 = .ok (.iconst 1, 1) := by decide +kernel
theorem dX6_states_1 : decode cX6_states 1 = .ok (.istore_n 1, 1) := by decide +kernel
theorem dX6_states_2 : decode cX6_states 2 = .ok (.iconst 0, 1) := by decide +kernel
theorem dX6_states_3 : decode cX6_states 3 = .ok (.istore_n 2, 1) := by decide +kernel
theorem dX6_states_4 : decode cX6_states 4 = .ok (.iload_n 2, 1) := by decide +kernel
theorem dX6_states_5 : decode cX6_states 5 = .ok (.aload_n 0, 1) := by decide +kernel
theorem dX6_states_6 : decode cX6_states 6 = .ok (.getfield 53, 3) := by decide +kernel
theorem dX6_states_9 : decode cX6_states 9 = .ok (.if_icmp .ge 39, 3) := by decide +kernel
theorem dX6_states_12 : decode cX6_states 12 = .ok (.iload_n 1, 1) := by decide +kernel
theorem dX6_states_13 : decode cX6_states 13 = .ok (.sipush 5000, 3) := by decide +kernel
theorem dX6_states_16 : decode cX6_states 16 = .ok (.if_icmp .gt 32, 3) := by decide +kernel
theorem dX6_states_19 : decode cX6_states 19 = .ok (.iload_n 1, 1) := by decide +kernel
theorem dX6_states_20 : decode cX6_states 20 = .ok (.aload_n 0, 1) := by decide +kernel
theorem dX6_states_21 : decode cX6_states 21 = .ok (.getfield 90, 3) := by decide +kernel
theorem dX6_states_24 : decode cX6_states 24 = .ok (.iconst 1, 1) := by decide +kernel
theorem dX6_states_25 : decode cX6_states 25 = .ok (.if_icmp .ne 14, 3) := by decide +kernel
theorem dX6_states_28 : decode cX6_states 28 = .ok (.aload_n 0, 1) := by decide +kernel
theorem dX6_states_29 : decode cX6_states 29 = .ok (.getfield 7, 3) := by decide +kernel
theorem dX6_states_32 : decode cX6_states 32 = .ok (.iload_n 2, 1) := by decide +kernel
theorem dX6_states_33 : decode cX6_states 33 = .ok (.iaload, 1) := by decide +kernel
theorem dX6_states_34 : decode cX6_states 34 = .ok (.iconst 1, 1) := by decide +kernel
theorem dX6_states_35 : decode cX6_states 35 = .ok (.iadd, 1) := by decide +kernel
theorem dX6_states_36 : decode cX6_states 36 = .ok (.goto 4, 3) := by decide +kernel
theorem dX6_states_39 : decode cX6_states 39 = .ok (.iconst 2, 1) := by decide +kernel
theorem dX6_states_40 : decode cX6_states 40 = .ok (.imul, 1) := by decide +kernel
theorem dX6_states_41 : decode cX6_states 41 = .ok (.istore_n 1, 1) := by decide +kernel
theorem dX6_states_42 : decode cX6_states 42 = .ok (.iinc 2 1, 3) := by decide +kernel
theorem dX6_states_45 : decode cX6_states 45 = .ok (.goto (-41), 3) := by decide +kernel
theorem dX6_states_48 : decode cX6_states 48 = .ok (.iload_n 1, 1) := by decide +kernel
theorem dX6_states_49 : decode cX6_states 49 = .ok (.ireturn, 1) := by decide +kernel
def rX6_states : Room := { frames := 0, cells := 0, slots := 0, locals := 0 }
theorem yk_X6_states : YK yX6_states cX6_states 3 (some .int) 0 := ⟨xim_X6_states, xse_X6_states, xin_X6, xco_X6_states, by decide +kernel⟩
set_option maxRecDepth 4000 in
theorem c_X6_states {l : Launch} {D : va_G} {t : Nat → ClassId} {b : Nat → Nat} {I : Nat → Int32} {F : Nat → Nat → Int32} {K : Cfg} (hK : CFG K I F) (hW : WFK K)  : CT l D t yX6_states cX6_states 3 (some .int) rX6_states 0 0 [.ref (b 0)] (WM b t I F) (EP (fun v w => w = WM b t I F ∧ ∃ z, v = .int (nI z) ∧ z ≤ 30000 ∧ (z ≤ 5000 ↔ stN K ≤ 5000))) := by
  refine CT.of (by decide +kernel) (by simp [lg_sl, Value.category]) (fun X C hR => ?_)
  refine xlocals (lv' := [(0, .ref (b 0))]) rfl ?_
  have fn24 := hW.n24; have fm60 := hW.m60; have fk2 := hW.k2; have fu1 := hW.u1; have fu9 := hW.u9; have fv1 := hW.v1; have fv9 := hW.v9
  refine xiconst (v := nI 1) C dX6_states_0 (by decide) ?_
  refine xistore_n (lv' := [(1, .int (nI 1)), (0, .ref (b 0))]) C dX6_states_1 (by decide) rfl ?_
  refine xiconst (v := nI 0) C dX6_states_2 (by decide) ?_
  refine xistore_n (lv' := [(2, .int (nI 0)), (1, .int (nI 1)), (0, .ref (b 0))]) C dX6_states_3 (by decide) rfl ?_
  have LP4 : ∀ (fu4 : Nat) (i : Nat) (hi : i ≤ kn K) (hb : pr (gN K) i ≤ 30000), kn K - i < fu4 → XW X 0 0 (WM b t I F) [(0, .ref (b 0)), (1, .int (nI (pr (gN K) i))), (2, .int (nI i))] 4 [] := by
    intro fu4
    induction fu4 with
    | zero => intro i hi hb hm4; exact absurd hm4 (Nat.not_lt_zero _)
    | succ fu4 ih4 =>
      intro i hi hb hm4
      refine xiload_n C 2 rfl dX6_states_4 ?_
      refine xaload_n C 0 rfl dX6_states_5 ?_
      refine gX6_53K C hK dX6_states_6 ?_
      refine xicmp_geN C 48 dX6_states_9 (by decide) (by omega) (by omega) (fun h9 => ?_) (fun h9 => ?_)
      ·
        refine xiload_n C 1 rfl dX6_states_48 ?_
        exact xret C hR (rfl) dX6_states_49 (⟨_, rfl, rfl, _, rfl, hb, by (have e : i = kn K := (by omega)); subst e; exact Iff.rfl⟩)
      ·
        refine xiload_n C 1 rfl dX6_states_12 ?_
        refine xsipush (v := nI 5000) C dX6_states_13 (by decide) ?_
        refine xicmp_gtN C 48 dX6_states_16 (by decide) (by omega) (by omega) (fun h16 => ?_) (fun h16 => ?_)
        ·
          refine xiload_n C 1 rfl dX6_states_48 ?_
          exact xret C hR (rfl) dX6_states_49 (⟨_, rfl, rfl, _, rfl, hb, pr_over hi (by omega)⟩)
        ·
          refine xiload_n C 1 rfl dX6_states_19 ?_
          refine xaload_n C 0 rfl dX6_states_20 ?_
          refine gX6_90K C hK dX6_states_21 ?_
          refine xiconst (v := nI 1) C dX6_states_24 (by decide) ?_
          refine xicmp_neN C 39 dX6_states_25 (by decide) (by omega) (by omega) (fun h25 => ?_) (fun h25 => ?_)
          ·
            refine xiconst (v := nI 2) C dX6_states_39 (by decide) ?_
            refine xtopi (y := nI (gN K i)) (congrArg nI (gN_n h25)) ?_
            refine ximulN C dX6_states_40 ?_
            refine xtopi (y := nI (pr (gN K) (i + 1))) (rfl) ?_
            refine xistore_n (lv' := [(1, .int (nI (pr (gN K) (i + 1)))), (0, .ref (b 0)), (2, .int (nI i))]) C dX6_states_41 (by decide) rfl ?_
            refine xiincN (lv' := [(2, .int (nI (i + 1))), (1, .int (nI (pr (gN K) (i + 1)))), (0, .ref (b 0))]) C 2 rfl dX6_states_42 (by decide) rfl ?_
            refine xgoto C 4 dX6_states_45 (by decide) ?_
            refine xsub [2, 1, 0] rfl ?_
            exact ih4 (i + 1) (by omega) (pr_30 hW (by omega) (by omega)) (by omega)
          ·
            refine xaload_n C 0 rfl dX6_states_28 ?_
            refine gX6_7 C dX6_states_29 ?_
            refine xiload_n C 2 rfl dX6_states_32 ?_
            refine ma_top C hK hW i (by omega) dX6_states_33 ?_
            have fb33 := (hW.top5 (by omega))
            refine xiconst (v := nI 1) C dX6_states_34 (by decide) ?_
            refine xiaddN C dX6_states_35 ?_
            refine xgoto C 40 dX6_states_36 (by decide) ?_
            refine xtopi (y := nI (gN K i)) (congrArg nI (gN_1 h25)) ?_
            refine ximulN C dX6_states_40 ?_
            refine xtopi (y := nI (pr (gN K) (i + 1))) (rfl) ?_
            refine xistore_n (lv' := [(1, .int (nI (pr (gN K) (i + 1)))), (0, .ref (b 0)), (2, .int (nI i))]) C dX6_states_41 (by decide) rfl ?_
            refine xiincN (lv' := [(2, .int (nI (i + 1))), (1, .int (nI (pr (gN K) (i + 1)))), (0, .ref (b 0))]) C 2 rfl dX6_states_42 (by decide) rfl ?_
            refine xgoto C 4 dX6_states_45 (by decide) ?_
            refine xsub [2, 1, 0] rfl ?_
            exact ih4 (i + 1) (by omega) (pr_30 hW (by omega) (by omega)) (by omega)
  refine xsub [2, 1, 0] rfl ?_
  exact LP4 _ 0 (Nat.zero_le _) (show 1 ≤ 30000 by decide) (Nat.lt_succ_self _)
theorem dX6_barsSmall_0 : decode cX6_barsSmall 0 = .ok (.aload_n 0, 1) := by decide +kernel
theorem dX6_barsSmall_1 : decode cX6_barsSmall 1 = .ok (.invokevirtual 64, 3) := by decide +kernel
theorem dX6_barsSmall_4 : decode cX6_barsSmall 4 = .ok (.ifCond .ne 6, 3) := by decide +kernel
theorem dX6_barsSmall_7 : decode cX6_barsSmall 7 = .ok (.bipush (-5), 2) := by decide +kernel
theorem dX6_barsSmall_9 : decode cX6_barsSmall 9 = .ok (.ireturn, 1) := by decide +kernel
theorem dX6_barsSmall_10 : decode cX6_barsSmall 10 = .ok (.aload_n 0, 1) := by decide +kernel
theorem dX6_barsSmall_11 : decode cX6_barsSmall 11 = .ok (.invokevirtual 144, 3) := by decide +kernel
theorem dX6_barsSmall_14 : decode cX6_barsSmall 14 = .ok (.sipush 5000, 3) := by decide +kernel
theorem dX6_barsSmall_17 : decode cX6_barsSmall 17 = .ok (.if_icmp .gt 16, 3) := by decide +kernel
theorem dX6_barsSmall_20 : decode cX6_barsSmall 20 = .ok (.aload_n 0, 1) := by decide +kernel
theorem dX6_barsSmall_21 : decode cX6_barsSmall 21 = .ok (.getfield 79, 3) := by decide +kernel
theorem dX6_barsSmall_24 : decode cX6_barsSmall 24 = .ok (.bipush 12, 2) := by decide +kernel
theorem dX6_barsSmall_26 : decode cX6_barsSmall 26 = .ok (.if_icmp .gt 7, 3) := by decide +kernel
theorem dX6_barsSmall_29 : decode cX6_barsSmall 29 = .ok (.iconst 1, 1) := by decide +kernel
theorem dX6_barsSmall_30 : decode cX6_barsSmall 30 = .ok (.goto 4, 3) := by decide +kernel
theorem dX6_barsSmall_33 : decode cX6_barsSmall 33 = .ok (.iconst 0, 1) := by decide +kernel
theorem dX6_barsSmall_34 : decode cX6_barsSmall 34 = .ok (.istore_n 1, 1) := by decide +kernel
theorem dX6_barsSmall_35 : decode cX6_barsSmall 35 = .ok (.iload_n 1, 1) := by decide +kernel
theorem dX6_barsSmall_36 : decode cX6_barsSmall 36 = .ok (.ifCond .eq 7, 3) := by decide +kernel
theorem dX6_barsSmall_39 : decode cX6_barsSmall 39 = .ok (.iconst 0, 1) := by decide +kernel
theorem dX6_barsSmall_40 : decode cX6_barsSmall 40 = .ok (.goto 5, 3) := by decide +kernel
theorem dX6_barsSmall_43 : decode cX6_barsSmall 43 = .ok (.bipush (-4), 2) := by decide +kernel
theorem dX6_barsSmall_45 : decode cX6_barsSmall 45 = .ok (.ireturn, 1) := by decide +kernel
def rX6_barsSmall : Room := { frames := 2, cells := 0, slots := 0, locals := 47 }
theorem yk_X6_barsSmall : YK yX6_barsSmall cX6_barsSmall 2 (some .int) 0 := ⟨xim_X6_barsSmall, xse_X6_barsSmall, xin_X6, xco_X6_barsSmall, by decide +kernel⟩
set_option maxRecDepth 4000 in
theorem c_X6_barsSmall {l : Launch} {D : va_G} {t : Nat → ClassId} {b : Nat → Nat} {I : Nat → Int32} {F : Nat → Nat → Int32} {K : Cfg} (hK : CFG K I F) (hW : WFK K)  : CT l D t yX6_barsSmall cX6_barsSmall 2 (some .int) rX6_barsSmall 0 0 [.ref (b 0)] (WM b t I F) (EP (fun v w => ∃ F' : Nat → Nat → Int32, w = WM b t I F' ∧ (∀ q, q ≠ 11 → F' q = F q) ∧ ((¬ GoodP K ∧ v = .int (-5)) ∨ (GoodP K ∧ ¬ smlP K ∧ v = .int (-4)) ∨ (GoodP K ∧ smlP K ∧ v = .int (nI 0))))) := by
  refine CT.of (by decide +kernel) (by simp [lg_sl, Value.category]) (fun X C hR => ?_)
  refine xlocals (lv' := [(0, .ref (b 0))]) rfl ?_
  have fn24 := hW.n24; have fm60 := hW.m60; have fk2 := hW.k2; have fu1 := hW.u1; have fu9 := hW.u9; have fv1 := hW.v1; have fv9 := hW.v9
  refine xaload_n C 0 rfl dX6_barsSmall_0 ?_
  refine xcVE C (c_X6_isGood hK hW) yk_X6_isGood 0 rfl rfl xml_X6_64 ⟨⟨Nat.le_of_ble_eq_true rfl, Nat.le_of_ble_eq_true rfl⟩, ⟨rfl, rfl⟩, ⟨Nat.zero_le _, Nat.zero_le _⟩⟩ rfl (Nat.le_of_ble_eq_true rfl) dX6_barsSmall_1 (fun vE wE hE => ?_)
  obtain ⟨rfl, FA, rfl, hXA⟩ := hE
  have hKA : CFG K I FA := hK.of (fun _ _ => rfl) (fun q hq => hXA q (by omega))
  refine xif_neN C 10 dX6_barsSmall_4 (by decide) (bn_lt _) (fun h4 => ?_) (fun h4 => ?_)
  ·
    refine xaload_n C 0 rfl dX6_barsSmall_10 ?_
    refine xcVE C (c_X6_states hKA hW) yk_X6_states 0 rfl rfl xml_X6_144 ⟨⟨Nat.le_of_ble_eq_true rfl, Nat.le_of_ble_eq_true rfl⟩, ⟨rfl, rfl⟩, ⟨Nat.zero_le _, Nat.zero_le _⟩⟩ rfl (Nat.le_of_ble_eq_true rfl) dX6_barsSmall_11 (fun vE wE hE => ?_)
    obtain ⟨rfl, z, rfl, hz3, hz⟩ := hE
    refine xsipush (v := nI 5000) C dX6_barsSmall_14 (by decide) ?_
    refine xicmp_gtN C 33 dX6_barsSmall_17 (by decide) (by omega) (by omega) (fun h17 => ?_) (fun h17 => ?_)
    ·
      refine xiconst (v := nI 0) C dX6_barsSmall_33 (by decide) ?_
      refine xistore_n (lv' := [(1, .int (nI 0)), (0, .ref (b 0))]) C dX6_barsSmall_34 (by decide) rfl ?_
      refine xiload_n C 0 rfl dX6_barsSmall_35 ?_
      refine xif_eqN C 43 dX6_barsSmall_36 (by decide) (by omega) (fun h36 => ?_) (fun h36 => ?_)
      ·
        refine xbipush (v := -4) C dX6_barsSmall_43 (by decide) ?_
        exact xret C hR (rfl) dX6_barsSmall_45 (⟨_, rfl, FA, rfl, hXA, Or.inr (Or.inl ⟨bn_1 h4, fun q => by have := q.2; omega, rfl⟩)⟩)
      · exact absurd rfl h36
    ·
      refine xaload_n C 0 rfl dX6_barsSmall_20 ?_
      refine gX6_79K C hKA dX6_barsSmall_21 ?_
      refine xbipush (v := nI 12) C dX6_barsSmall_24 (by decide) ?_
      refine xicmp_gtN C 33 dX6_barsSmall_26 (by decide) (by omega) (by omega) (fun h26 => ?_) (fun h26 => ?_)
      ·
        refine xiconst (v := nI 0) C dX6_barsSmall_33 (by decide) ?_
        refine xistore_n (lv' := [(1, .int (nI 0)), (0, .ref (b 0))]) C dX6_barsSmall_34 (by decide) rfl ?_
        refine xiload_n C 0 rfl dX6_barsSmall_35 ?_
        refine xif_eqN C 43 dX6_barsSmall_36 (by decide) (by omega) (fun h36 => ?_) (fun h36 => ?_)
        ·
          refine xbipush (v := -4) C dX6_barsSmall_43 (by decide) ?_
          exact xret C hR (rfl) dX6_barsSmall_45 (⟨_, rfl, FA, rfl, hXA, Or.inr (Or.inl ⟨bn_1 h4, fun q => by have := q.1; omega, rfl⟩)⟩)
        · exact absurd rfl h36
      ·
        refine xiconst (v := nI 1) C dX6_barsSmall_29 (by decide) ?_
        refine xgoto C 34 dX6_barsSmall_30 (by decide) ?_
        refine xistore_n (lv' := [(1, .int (nI 1)), (0, .ref (b 0))]) C dX6_barsSmall_34 (by decide) rfl ?_
        refine xiload_n C 0 rfl dX6_barsSmall_35 ?_
        refine xif_eqN C 43 dX6_barsSmall_36 (by decide) (by omega) (fun h36 => ?_) (fun h36 => ?_)
        · exact absurd h36 (by decide)
        ·
          refine xiconst (v := nI 0) C dX6_barsSmall_39 (by decide) ?_
          refine xgoto C 45 dX6_barsSmall_40 (by decide) ?_
          exact xret C hR (rfl) dX6_barsSmall_45 (⟨_, rfl, FA, rfl, hXA, Or.inr (Or.inr ⟨bn_1 h4, ⟨by omega, by omega⟩, rfl⟩)⟩)
  ·
    refine xbipush (v := -5) C dX6_barsSmall_7 (by decide) ?_
    exact xret C hR (rfl) dX6_barsSmall_9 (⟨_, rfl, FA, rfl, hXA, Or.inl ⟨bn_0 h4, rfl⟩⟩)
theorem dX6_first_0 : decode cX6_first 0 = .ok (.iconst 0, 1) := by decide +kernel
theorem dX6_first_1 : decode cX6_first 1 = .ok (.istore_n 1, 1) := by decide +kernel
theorem dX6_first_2 : decode cX6_first 2 = .ok (.iload_n 1, 1) := by decide +kernel
theorem dX6_first_3 : decode cX6_first 3 = .ok (.aload_n 0, 1) := by decide +kernel
theorem dX6_first_4 : decode cX6_first 4 = .ok (.getfield 53, 3) := by decide +kernel
theorem dX6_first_7 : decode cX6_first 7 = .ok (.if_icmp .ge 16, 3) := by decide +kernel
theorem dX6_first_10 : decode cX6_first 10 = .ok (.aload_n 0, 1) := by decide +kernel
theorem dX6_first_11 : decode cX6_first 11 = .ok (.getfield 50, 3) := by decide +kernel
theorem dX6_first_14 : decode cX6_first 14 = .ok (.iload_n 1, 1) := by decide +kernel
theorem dX6_first_15 : decode cX6_first 15 = .ok (.iconst 0, 1) := by decide +kernel
theorem dX6_first_16 : decode cX6_first 16 = .ok (.iastore, 1) := by decide +kernel
theorem dX6_first_17 : decode cX6_first 17 = .ok (.iinc 1 1, 3) := by decide +kernel
theorem dX6_first_20 : decode cX6_first 20 = .ok (.goto (-18), 3) := by decide +kernel
theorem dX6_first_23 : decode cX6_first 23 = .ok (.return_, 1) := by decide +kernel
def rX6_first : Room := { frames := 0, cells := 0, slots := 0, locals := 0 }
theorem yk_X6_first : YK yX6_first cX6_first 2 none 0 := ⟨xim_X6_first, xse_X6_first, xin_X6, xco_X6_first, by decide +kernel⟩
set_option maxRecDepth 4000 in
theorem c_X6_first {l : Launch} {D : va_G} {t : Nat → ClassId} {b : Nat → Nat} {I : Nat → Int32} {F : Nat → Nat → Int32} {K : Cfg} (hK : CFG K I F) (hW : WFK K)  : CT l D t yX6_first cX6_first 2 none rX6_first 0 0 [.ref (b 0)] (WM b t I F) (VP (fun w => ∃ F' : Nat → Nat → Int32, w = WM b t I F' ∧ (∀ z, z ≠ 11 → F' z = F z) ∧ RA (kn K) (F' 11) (dgN K 0))) := by
  refine CT.of (by decide +kernel) (by simp [lg_sl, Value.category]) (fun X C hR => ?_)
  refine xlocals (lv' := [(0, .ref (b 0))]) rfl ?_
  have fn24 := hW.n24; have fm60 := hW.m60; have fk2 := hW.k2; have fu1 := hW.u1; have fu9 := hW.u9; have fv1 := hW.v1; have fv9 := hW.v9
  refine xiconst (v := nI 0) C dX6_first_0 (by decide) ?_
  refine xistore_n (lv' := [(1, .int (nI 0)), (0, .ref (b 0))]) C dX6_first_1 (by decide) rfl ?_
  have LP2 : ∀ (fu2 : Nat) (i : Nat) (FA : Nat → Nat → Int32) (hi : i ≤ kn K) (hA : RA i (FA 11) (dgN K 0)) (hXA : (∀ z, z ≠ 11 → FA z = F z)), kn K - i < fu2 → XW X 0 0 (WM b t I FA) [(0, .ref (b 0)), (1, .int (nI i))] 2 [] := by
    intro fu2
    induction fu2 with
    | zero => intro i FA hi hA hXA hm2; exact absurd hm2 (Nat.not_lt_zero _)
    | succ fu2 ih2 =>
      intro i FA hi hA hXA hm2
      have hKA : CFG K I FA := hK.of (fun _ _ => rfl) (fun z hz => hXA z (by omega))
      refine xiload_n C 1 rfl dX6_first_2 ?_
      refine xaload_n C 0 rfl dX6_first_3 ?_
      refine gX6_53K C hKA dX6_first_4 ?_
      refine xicmp_geN C 23 dX6_first_7 (by decide) (by omega) (by omega) (fun h7 => ?_) (fun h7 => ?_)
      ·
        exact xvret C hR dX6_first_23 (⟨rfl, FA, rfl, hXA, fun p hp => hA p (by omega)⟩)
      ·
        refine xaload_n C 0 rfl dX6_first_10 ?_
        refine gX6_50 C dX6_first_11 ?_
        refine xiload_n C 1 rfl dX6_first_14 ?_
        refine xiconst (v := nI 0) C dX6_first_15 (by decide) ?_
        refine ms_st C 11 (by omega) (by omega) i (by omega) dX6_first_16 ?_
        obtain ⟨FB, eFB⟩ : ∃ z : Nat → Nat → Int32, z = va_up FA 11 (upd (FA 11) i (nI 0)) := ⟨_, rfl⟩
        refine xworld (ws' := WM b t I FB) (by rw [eFB]) ?_
        refine xiincN (lv' := [(1, .int (nI (i + 1))), (0, .ref (b 0))]) C 1 rfl dX6_first_17 (by decide) rfl ?_
        refine xgoto C 2 dX6_first_20 (by decide) ?_
        refine xsub [1, 0] rfl ?_
        exact ih2 (i + 1) FB (by omega) (by rw [eFB, va_up_self]; have h9 := hA.snoc (show dgN K 0 i ≤ 5 by rw [dg0z]; omega); rw [dg0z] at h9; exact h9) (fun z hz => by rw [eFB, va_up_ne _ _ hz]; exact hXA z hz) (by omega)
  refine xsub [1, 0] rfl ?_
  exact LP2 _ 0 F (Nat.zero_le _) (fun x h => absurd h (Nat.not_lt_zero _)) (fun _ _ => rfl) (Nat.lt_succ_self _)
theorem dX6_next_0 : decode cX6_next 0 = .ok (.iconst 0, 1) := by decide +kernel
theorem dX6_next_1 : decode cX6_next 1 = .ok (.istore_n 1, 1) := by decide +kernel
theorem dX6_next_2 : decode cX6_next 2 = .ok (.iload_n 1, 1) := by decide +kernel
theorem dX6_next_3 : decode cX6_next 3 = .ok (.aload_n 0, 1) := by decide +kernel
theorem dX6_next_4 : decode cX6_next 4 = .ok (.getfield 53, 3) := by decide +kernel
theorem dX6_next_7 : decode cX6_next 7 = .ok (.if_icmp .ge 43, 3) := by decide +kernel
theorem dX6_next_10 : decode cX6_next 10 = .ok (.aload_n 0, 1) := by decide +kernel
theorem dX6_next_11 : decode cX6_next 11 = .ok (.getfield 50, 3) := by decide +kernel
theorem dX6_next_14 : decode cX6_next 14 = .ok (.iload_n 1, 1) := by decide +kernel
theorem dX6_next_15 : decode cX6_next 15 = .ok (.iaload, 1) := by decide +kernel
theorem dX6_next_16 : decode cX6_next 16 = .ok (.aload_n 0, 1) := by decide +kernel
theorem dX6_next_17 : decode cX6_next 17 = .ok (.getfield 90, 3) := by decide +kernel
theorem dX6_next_20 : decode cX6_next 20 = .ok (.iconst 1, 1) := by decide +kernel
theorem dX6_next_21 : decode cX6_next 21 = .ok (.if_icmp .ne 12, 3) := by decide +kernel
theorem dX6_next_24 : decode cX6_next 24 = .ok (.aload_n 0, 1) := by decide +kernel
theorem dX6_next_25 : decode cX6_next 25 = .ok (.getfield 7, 3) := by decide +kernel
theorem dX6_next_28 : decode cX6_next 28 = .ok (.iload_n 1, 1) := by decide +kernel
theorem dX6_next_29 : decode cX6_next 29 = .ok (.iaload, 1) := by decide +kernel
theorem dX6_next_30 : decode cX6_next 30 = .ok (.goto 4, 3) := by decide +kernel
theorem dX6_next_33 : decode cX6_next 33 = .ok (.iconst 1, 1) := by decide +kernel
theorem dX6_next_34 : decode cX6_next 34 = .ok (.if_icmp .ne 16, 3) := by decide +kernel
theorem dX6_next_37 : decode cX6_next 37 = .ok (.aload_n 0, 1) := by decide +kernel
theorem dX6_next_38 : decode cX6_next 38 = .ok (.getfield 50, 3) := by decide +kernel
theorem dX6_next_41 : decode cX6_next 41 = .ok (.iload_n 1, 1) := by decide +kernel
theorem dX6_next_42 : decode cX6_next 42 = .ok (.iconst 0, 1) := by decide +kernel
theorem dX6_next_43 : decode cX6_next 43 = .ok (.iastore, 1) := by decide +kernel
theorem dX6_next_44 : decode cX6_next 44 = .ok (.iinc 1 1, 3) := by decide +kernel
theorem dX6_next_47 : decode cX6_next 47 = .ok (.goto (-45), 3) := by decide +kernel
theorem dX6_next_50 : decode cX6_next 50 = .ok (.iload_n 1, 1) := by decide +kernel
theorem dX6_next_51 : decode cX6_next 51 = .ok (.aload_n 0, 1) := by decide +kernel
theorem dX6_next_52 : decode cX6_next 52 = .ok (.getfield 53, 3) := by decide +kernel
theorem dX6_next_55 : decode cX6_next 55 = .ok (.if_icmp .ge 13, 3) := by decide +kernel
theorem dX6_next_58 : decode cX6_next 58 = .ok (.aload_n 0, 1) := by decide +kernel
theorem dX6_next_59 : decode cX6_next 59 = .ok (.getfield 50, 3) := by decide +kernel
theorem dX6_next_62 : decode cX6_next 62 = .ok (.iload_n 1, 1) := by decide +kernel
theorem dX6_next_63 : decode cX6_next 63 = .ok (.dup2, 1) := by decide +kernel
theorem dX6_next_64 : decode cX6_next 64 = .ok (.iaload, 1) := by decide +kernel
theorem dX6_next_65 : decode cX6_next 65 = .ok (.iconst 1, 1) := by decide +kernel
theorem dX6_next_66 : decode cX6_next 66 = .ok (.iadd, 1) := by decide +kernel
theorem dX6_next_67 : decode cX6_next 67 = .ok (.iastore, 1) := by decide +kernel
theorem dX6_next_68 : decode cX6_next 68 = .ok (.iload_n 1, 1) := by decide +kernel
theorem dX6_next_69 : decode cX6_next 69 = .ok (.aload_n 0, 1) := by decide +kernel
theorem dX6_next_70 : decode cX6_next 70 = .ok (.getfield 53, 3) := by decide +kernel
theorem dX6_next_73 : decode cX6_next 73 = .ok (.if_icmp .ge 7, 3) := by decide +kernel
theorem dX6_next_76 : decode cX6_next 76 = .ok (.iconst 1, 1) := by decide +kernel
theorem dX6_next_77 : decode cX6_next 77 = .ok (.goto 4, 3) := by decide +kernel
theorem dX6_next_80 : decode cX6_next 80 = .ok (.iconst 0, 1) := by decide +kernel
theorem dX6_next_81 : decode cX6_next 81 = .ok (.ireturn, 1) := by decide +kernel
def rX6_next : Room := { frames := 0, cells := 0, slots := 0, locals := 0 }
theorem yk_X6_next : YK yX6_next cX6_next 2 (some .boolean) 0 := ⟨xim_X6_next, xse_X6_next, xin_X6, xco_X6_next, by decide +kernel⟩
set_option maxRecDepth 4000 in
theorem c_X6_next {l : Launch} {D : va_G} {t : Nat → ClassId} {b : Nat → Nat} {I : Nat → Int32} {F : Nat → Nat → Int32} {K : Cfg} (hK : CFG K I F) (hW : WFK K) (i : Nat) (hi : i < stN K) (hS : RA (kn K) (F 11) (dgN K i)) : CT l D t yX6_next cX6_next 2 (some .boolean) rX6_next 0 0 [.ref (b 0)] (WM b t I F) (EP (fun v w => v = .int (nI (bn (i + 1 < stN K))) ∧ ∃ F' : Nat → Nat → Int32, w = WM b t I F' ∧ (∀ z, z ≠ 11 → F' z = F z) ∧ RA (kn K) (F' 11) (dgN K (i + 1)))) := by
  refine CT.of (by decide +kernel) (by simp [lg_sl, Value.category]) (fun X C hR => ?_)
  refine xlocals (lv' := [(0, .ref (b 0))]) rfl ?_
  have fn24 := hW.n24; have fm60 := hW.m60; have fk2 := hW.k2; have fu1 := hW.u1; have fu9 := hW.u9; have fv1 := hW.v1; have fv9 := hW.v9
  refine xiconst (v := nI 0) C dX6_next_0 (by decide) ?_
  refine xistore_n (lv' := [(1, .int (nI 0)), (0, .ref (b 0))]) C dX6_next_1 (by decide) rfl ?_
  have LP2 : ∀ (fu2 : Nat) (q : Nat) (FA : Nat → Nat → Int32) (hq : q ≤ kn K) (hm : (i + 1) % pr (gN K) q = 0) (hA : RA (kn K) (FA 11) (fun p => if p < q then 0 else dgN K i p)) (hXA : (∀ z, z ≠ 11 → FA z = F z)), kn K - q < fu2 → XW X 0 0 (WM b t I FA) [(0, .ref (b 0)), (1, .int (nI q))] 2 [] := by
    intro fu2
    induction fu2 with
    | zero => intro q FA hq hm hA hXA hm2; exact absurd hm2 (Nat.not_lt_zero _)
    | succ fu2 ih2 =>
      intro q FA hq hm hA hXA hm2
      have hKA : CFG K I FA := hK.of (fun _ _ => rfl) (fun z hz => hXA z (by omega))
      have hgq : mostN K q + 1 = gN K q := rfl
      have hdl : dgN K i q < gN K q := Nat.mod_lt _ (Nat.succ_pos _)
      refine xiload_n C 1 rfl dX6_next_2 ?_
      refine xaload_n C 0 rfl dX6_next_3 ?_
      refine gX6_53K C hKA dX6_next_4 ?_
      refine xicmp_geN C 50 dX6_next_7 (by decide) (by omega) (by omega) (fun h7 => ?_) (fun h7 => ?_)
      ·
        refine xiload_n C 1 rfl dX6_next_50 ?_
        refine xaload_n C 0 rfl dX6_next_51 ?_
        refine gX6_53K C hKA dX6_next_52 ?_
        refine xicmp_geN C 68 dX6_next_55 (by decide) (by omega) (by omega) (fun h55 => ?_) (fun h55 => ?_)
        ·
          refine xiload_n C 1 rfl dX6_next_68 ?_
          refine xaload_n C 0 rfl dX6_next_69 ?_
          refine gX6_53K C hKA dX6_next_70 ?_
          refine xicmp_geN C 80 dX6_next_73 (by decide) (by omega) (by omega) (fun h73 => ?_) (fun h73 => ?_)
          ·
            refine xiconst (v := nI 0) C dX6_next_80 (by decide) ?_
            exact xret C hR (by rfl) dX6_next_81 (⟨_, rfl, by rw [bn_f (P := i + 1 < stN K) (odo_end hm hi (show q = kn K by omega))], FA, rfl, hXA, fun p hp => by rw [odo_zero hm (show p < q by omega)]; have h9 := hA p hp; dsimp only at h9; rw [if_pos (show p < q by omega)] at h9; exact h9⟩)
          · exact absurd h73 (by omega)
        · exact absurd h55 (by omega)
      ·
        have hm5 := mostN_le hW (show q < kn K by omega)
        refine xaload_n C 0 rfl dX6_next_10 ?_
        refine gX6_50 C dX6_next_11 ?_
        refine xiload_n C 1 rfl dX6_next_14 ?_
        refine ma_st C hW 11 (by decide) (by decide) hA q (by omega) dX6_next_15 ?_
        have fb15 := (hA q (by omega)).2
        refine xtopi (y := nI (dgN K i q)) (by rw [if_neg (Nat.lt_irrefl q)]) ?_
        dsimp only at fb15
        rw [if_neg (Nat.lt_irrefl q)] at fb15
        refine xaload_n C 0 rfl dX6_next_16 ?_
        refine gX6_90K C hKA dX6_next_17 ?_
        refine xiconst (v := nI 1) C dX6_next_20 (by decide) ?_
        refine xicmp_neN C 33 dX6_next_21 (by decide) (by omega) (by omega) (fun h21 => ?_) (fun h21 => ?_)
        ·
          refine xiconst (v := nI 1) C dX6_next_33 (by decide) ?_
          refine xtopi (y := nI (mostN K q)) (congrArg nI (most_n h21)) ?_
          refine xicmp_neN C 50 dX6_next_34 (by decide) (by omega) (by omega) (fun h34 => ?_) (fun h34 => ?_)
          ·
            refine xiload_n C 1 rfl dX6_next_50 ?_
            refine xaload_n C 0 rfl dX6_next_51 ?_
            refine gX6_53K C hKA dX6_next_52 ?_
            refine xicmp_geN C 68 dX6_next_55 (by decide) (by omega) (by omega) (fun h55 => ?_) (fun h55 => ?_)
            · exact absurd h55 (by omega)
            ·
              refine xaload_n C 0 rfl dX6_next_58 ?_
              refine gX6_50 C dX6_next_59 ?_
              refine xiload_n C 1 rfl dX6_next_62 ?_
              refine xdup2 C dX6_next_63 rfl rfl ?_
              refine ma_st C hW 11 (by decide) (by decide) hA q (by omega) dX6_next_64 ?_
              have fb64 := (hA q (by omega)).2
              refine xtopi (y := nI (dgN K i q)) (by rw [if_neg (Nat.lt_irrefl q)]) ?_
              refine xiconst (v := nI 1) C dX6_next_65 (by decide) ?_
              refine xiaddN C dX6_next_66 ?_
              refine ms_st C 11 (by omega) (by omega) q (by omega) dX6_next_67 ?_
              obtain ⟨FB, eFB⟩ : ∃ z : Nat → Nat → Int32, z = va_up FA 11 (upd (FA 11) q (nI ((dgN K i q) + 1))) := ⟨_, rfl⟩
              refine xworld (ws' := WM b t I FB) (by rw [eFB]) ?_
              have hKB : CFG K I FB := hKA.of (fun _ _ => rfl) (fun z hz => by rw [eFB, va_up_ne _ _ (by omega)])
              refine xiload_n C 1 rfl dX6_next_68 ?_
              refine xaload_n C 0 rfl dX6_next_69 ?_
              refine gX6_53K C hKB dX6_next_70 ?_
              refine xicmp_geN C 80 dX6_next_73 (by decide) (by omega) (by omega) (fun h73 => ?_) (fun h73 => ?_)
              · exact absurd h73 (by omega)
              ·
                refine xiconst (v := nI 1) C dX6_next_76 (by decide) ?_
                refine xgoto C 81 dX6_next_77 (by decide) ?_
                exact xret C hR (by rfl) dX6_next_81 (⟨_, rfl, by rw [bn_t (P := i + 1 < stN K) (odo_more hm hi (show q < kn K by omega) (by omega))], FB, rfl, fun z hz => by rw [eFB, va_up_ne _ _ hz]; exact hXA z hz, fun p hp => by rw [eFB, va_up_self]; exact odo_up hW hm hA (by omega) (by omega) p hp⟩)
          ·
            refine xaload_n C 0 rfl dX6_next_37 ?_
            refine gX6_50 C dX6_next_38 ?_
            refine xiload_n C 1 rfl dX6_next_41 ?_
            refine xiconst (v := nI 0) C dX6_next_42 (by decide) ?_
            refine ms_st C 11 (by omega) (by omega) q (by omega) dX6_next_43 ?_
            obtain ⟨FB, eFB⟩ : ∃ z : Nat → Nat → Int32, z = va_up FA 11 (upd (FA 11) q (nI 0)) := ⟨_, rfl⟩
            refine xworld (ws' := WM b t I FB) (by rw [eFB]) ?_
            refine xiincN (lv' := [(1, .int (nI (q + 1))), (0, .ref (b 0))]) C 1 rfl dX6_next_44 (by decide) rfl ?_
            refine xgoto C 2 dX6_next_47 (by decide) ?_
            refine xsub [1, 0] rfl ?_
            exact ih2 (q + 1) FB (by omega) (odo_mod hm (by omega)) (fun p hp => by rw [eFB, va_up_self]; exact odo_RA hA p hp) (fun z hz => by rw [eFB, va_up_ne _ _ hz]; exact hXA z hz) (by omega)
        ·
          refine xaload_n C 0 rfl dX6_next_24 ?_
          refine gX6_7 C dX6_next_25 ?_
          refine xiload_n C 1 rfl dX6_next_28 ?_
          refine ma_top C hKA hW q (by omega) dX6_next_29 ?_
          have fb29 := (hW.top5 (by omega))
          refine xgoto C 34 dX6_next_30 (by decide) ?_
          refine xtopi (y := nI (mostN K q)) (congrArg nI (most_1 h21)) ?_
          refine xicmp_neN C 50 dX6_next_34 (by decide) (by omega) (by omega) (fun h34 => ?_) (fun h34 => ?_)
          ·
            refine xiload_n C 1 rfl dX6_next_50 ?_
            refine xaload_n C 0 rfl dX6_next_51 ?_
            refine gX6_53K C hKA dX6_next_52 ?_
            refine xicmp_geN C 68 dX6_next_55 (by decide) (by omega) (by omega) (fun h55 => ?_) (fun h55 => ?_)
            · exact absurd h55 (by omega)
            ·
              refine xaload_n C 0 rfl dX6_next_58 ?_
              refine gX6_50 C dX6_next_59 ?_
              refine xiload_n C 1 rfl dX6_next_62 ?_
              refine xdup2 C dX6_next_63 rfl rfl ?_
              refine ma_st C hW 11 (by decide) (by decide) hA q (by omega) dX6_next_64 ?_
              have fb64 := (hA q (by omega)).2
              refine xtopi (y := nI (dgN K i q)) (by rw [if_neg (Nat.lt_irrefl q)]) ?_
              refine xiconst (v := nI 1) C dX6_next_65 (by decide) ?_
              refine xiaddN C dX6_next_66 ?_
              refine ms_st C 11 (by omega) (by omega) q (by omega) dX6_next_67 ?_
              obtain ⟨FB, eFB⟩ : ∃ z : Nat → Nat → Int32, z = va_up FA 11 (upd (FA 11) q (nI ((dgN K i q) + 1))) := ⟨_, rfl⟩
              refine xworld (ws' := WM b t I FB) (by rw [eFB]) ?_
              have hKB : CFG K I FB := hKA.of (fun _ _ => rfl) (fun z hz => by rw [eFB, va_up_ne _ _ (by omega)])
              refine xiload_n C 1 rfl dX6_next_68 ?_
              refine xaload_n C 0 rfl dX6_next_69 ?_
              refine gX6_53K C hKB dX6_next_70 ?_
              refine xicmp_geN C 80 dX6_next_73 (by decide) (by omega) (by omega) (fun h73 => ?_) (fun h73 => ?_)
              · exact absurd h73 (by omega)
              ·
                refine xiconst (v := nI 1) C dX6_next_76 (by decide) ?_
                refine xgoto C 81 dX6_next_77 (by decide) ?_
                exact xret C hR (by rfl) dX6_next_81 (⟨_, rfl, by rw [bn_t (P := i + 1 < stN K) (odo_more hm hi (show q < kn K by omega) (by omega))], FB, rfl, fun z hz => by rw [eFB, va_up_ne _ _ hz]; exact hXA z hz, fun p hp => by rw [eFB, va_up_self]; exact odo_up hW hm hA (by omega) (by omega) p hp⟩)
          ·
            refine xaload_n C 0 rfl dX6_next_37 ?_
            refine gX6_50 C dX6_next_38 ?_
            refine xiload_n C 1 rfl dX6_next_41 ?_
            refine xiconst (v := nI 0) C dX6_next_42 (by decide) ?_
            refine ms_st C 11 (by omega) (by omega) q (by omega) dX6_next_43 ?_
            obtain ⟨FB, eFB⟩ : ∃ z : Nat → Nat → Int32, z = va_up FA 11 (upd (FA 11) q (nI 0)) := ⟨_, rfl⟩
            refine xworld (ws' := WM b t I FB) (by rw [eFB]) ?_
            refine xiincN (lv' := [(1, .int (nI (q + 1))), (0, .ref (b 0))]) C 1 rfl dX6_next_44 (by decide) rfl ?_
            refine xgoto C 2 dX6_next_47 (by decide) ?_
            refine xsub [1, 0] rfl ?_
            exact ih2 (q + 1) FB (by omega) (odo_mod hm (by omega)) (fun p hp => by rw [eFB, va_up_self]; exact odo_RA hA p hp) (fun z hz => by rw [eFB, va_up_ne _ _ hz]; exact hXA z hz) (by omega)
  refine xsub [1, 0] rfl ?_
  exact LP2 _ 0 F (Nat.zero_le _) (Nat.mod_one _) (fun p hp => by dsimp only; rw [if_neg (Nat.not_lt_zero p)]; exact hS p hp) (fun _ _ => rfl) (Nat.lt_succ_self _)
theorem dX6_weight_0 : decode cX6_weight 0 = .ok (.lconst 1, 1) := by decide +kernel
theorem dX6_weight_1 : decode cX6_weight 1 = .ok (.lstore_n 2, 1) := by decide +kernel
theorem dX6_weight_2 : decode cX6_weight 2 = .ok (.iconst 0, 1) := by decide +kernel
theorem dX6_weight_3 : decode cX6_weight 3 = .ok (.istore 4, 2) := by decide +kernel
theorem dX6_weight_5 : decode cX6_weight 5 = .ok (.iload 4, 2) := by decide +kernel
theorem dX6_weight_7 : decode cX6_weight 7 = .ok (.aload_n 0, 1) := by decide +kernel
theorem dX6_weight_8 : decode cX6_weight 8 = .ok (.getfield 79, 3) := by decide +kernel
theorem dX6_weight_11 : decode cX6_weight 11 = .ok (.if_icmp .ge 53, 3) := by decide +kernel
theorem dX6_weight_14 : decode cX6_weight 14 = .ok (.aload_n 0, 1) := by decide +kernel
theorem dX6_weight_15 : decode cX6_weight 15 = .ok (.getfield 90, 3) := by decide +kernel
theorem dX6_weight_18 : decode cX6_weight 18 = .ok (.ifCond .ne 46, 3) := by decide +kernel
theorem dX6_weight_21 : decode cX6_weight 21 = .ok (.lload_n 2, 1) := by decide +kernel
theorem dX6_weight_22 : decode cX6_weight 22 = .ok (.aload_n 1, 1) := by decide +kernel
theorem dX6_weight_23 : decode cX6_weight 23 = .ok (.aload_n 0, 1) := by decide +kernel
theorem dX6_weight_24 : decode cX6_weight 24 = .ok (.getfield 25, 3) := by decide +kernel
theorem dX6_weight_27 : decode cX6_weight 27 = .ok (.iload 4, 2) := by decide +kernel
theorem dX6_weight_29 : decode cX6_weight 29 = .ok (.iaload, 1) := by decide +kernel
theorem dX6_weight_30 : decode cX6_weight 30 = .ok (.iaload, 1) := by decide +kernel
theorem dX6_weight_31 : decode cX6_weight 31 = .ok (.aload_n 1, 1) := by decide +kernel
theorem dX6_weight_32 : decode cX6_weight 32 = .ok (.aload_n 0, 1) := by decide +kernel
theorem dX6_weight_33 : decode cX6_weight 33 = .ok (.getfield 28, 3) := by decide +kernel
theorem dX6_weight_36 : decode cX6_weight 36 = .ok (.iload 4, 2) := by decide +kernel
theorem dX6_weight_38 : decode cX6_weight 38 = .ok (.iaload, 1) := by decide +kernel
theorem dX6_weight_39 : decode cX6_weight 39 = .ok (.iaload, 1) := by decide +kernel
theorem dX6_weight_40 : decode cX6_weight 40 = .ok (.if_icmp .ne 11, 3) := by decide +kernel
theorem dX6_weight_43 : decode cX6_weight 43 = .ok (.aload_n 0, 1) := by decide +kernel
theorem dX6_weight_44 : decode cX6_weight 44 = .ok (.getfield 31, 3) := by decide +kernel
theorem dX6_weight_47 : decode cX6_weight 47 = .ok (.i2l, 1) := by decide +kernel
theorem dX6_weight_48 : decode cX6_weight 48 = .ok (.goto 8, 3) := by decide +kernel
theorem dX6_weight_51 : decode cX6_weight 51 = .ok (.aload_n 0, 1) := by decide +kernel
theorem dX6_weight_52 : decode cX6_weight 52 = .ok (.getfield 35, 3) := by decide +kernel
theorem dX6_weight_55 : decode cX6_weight 55 = .ok (.i2l, 1) := by decide +kernel
theorem dX6_weight_56 : decode cX6_weight 56 = .ok (.lmul, 1) := by decide +kernel
theorem dX6_weight_57 : decode cX6_weight 57 = .ok (.lstore_n 2, 1) := by decide +kernel
theorem dX6_weight_58 : decode cX6_weight 58 = .ok (.iinc 4 1, 3) := by decide +kernel
theorem dX6_weight_61 : decode cX6_weight 61 = .ok (.goto (-56), 3) := by decide +kernel
theorem dX6_weight_64 : decode cX6_weight 64 = .ok (.iconst 0, 1) := by decide +kernel
theorem dX6_weight_65 : decode cX6_weight 65 = .ok (.istore 4, 2) := by decide +kernel
theorem dX6_weight_67 : decode cX6_weight 67 = .ok (.iload 4, 2) := by decide +kernel
theorem dX6_weight_69 : decode cX6_weight 69 = .ok (.aload_n 0, 1) := by decide +kernel
theorem dX6_weight_70 : decode cX6_weight 70 = .ok (.getfield 53, 3) := by decide +kernel
theorem dX6_weight_73 : decode cX6_weight 73 = .ok (.if_icmp .ge 41, 3) := by decide +kernel
theorem dX6_weight_76 : decode cX6_weight 76 = .ok (.aload_n 0, 1) := by decide +kernel
theorem dX6_weight_77 : decode cX6_weight 77 = .ok (.getfield 90, 3) := by decide +kernel
theorem dX6_weight_80 : decode cX6_weight 80 = .ok (.iconst 2, 1) := by decide +kernel
theorem dX6_weight_81 : decode cX6_weight 81 = .ok (.if_icmp .ne 33, 3) := by decide +kernel
theorem dX6_weight_84 : decode cX6_weight 84 = .ok (.lload_n 2, 1) := by decide +kernel
theorem dX6_weight_85 : decode cX6_weight 85 = .ok (.aload_n 1, 1) := by decide +kernel
theorem dX6_weight_86 : decode cX6_weight 86 = .ok (.iload 4, 2) := by decide +kernel
theorem dX6_weight_88 : decode cX6_weight 88 = .ok (.iaload, 1) := by decide +kernel
theorem dX6_weight_89 : decode cX6_weight 89 = .ok (.iconst 1, 1) := by decide +kernel
theorem dX6_weight_90 : decode cX6_weight 90 = .ok (.if_icmp .ne 11, 3) := by decide +kernel
theorem dX6_weight_93 : decode cX6_weight 93 = .ok (.aload_n 0, 1) := by decide +kernel
theorem dX6_weight_94 : decode cX6_weight 94 = .ok (.getfield 31, 3) := by decide +kernel
theorem dX6_weight_97 : decode cX6_weight 97 = .ok (.i2l, 1) := by decide +kernel
theorem dX6_weight_98 : decode cX6_weight 98 = .ok (.goto 8, 3) := by decide +kernel
theorem dX6_weight_101 : decode cX6_weight 101 = .ok (.aload_n 0, 1) := by decide +kernel
theorem dX6_weight_102 : decode cX6_weight 102 = .ok (.getfield 35, 3) := by decide +kernel
theorem dX6_weight_105 : decode cX6_weight 105 = .ok (.i2l, 1) := by decide +kernel
theorem dX6_weight_106 : decode cX6_weight 106 = .ok (.lmul, 1) := by decide +kernel
theorem dX6_weight_107 : decode cX6_weight 107 = .ok (.lstore_n 2, 1) := by decide +kernel
theorem dX6_weight_108 : decode cX6_weight 108 = .ok (.iinc 4 1, 3) := by decide +kernel
theorem dX6_weight_111 : decode cX6_weight 111 = .ok (.goto (-44), 3) := by decide +kernel
theorem dX6_weight_114 : decode cX6_weight 114 = .ok (.lload_n 2, 1) := by decide +kernel
theorem dX6_weight_115 : decode cX6_weight 115 = .ok (.lreturn, 1) := by decide +kernel
def rX6_weight : Room := { frames := 0, cells := 0, slots := 0, locals := 0 }
theorem yk_X6_weight : YK yX6_weight cX6_weight 5 (some .long) 1 := ⟨xim_X6_weight, xse_X6_weight, xin_X6, xco_X6_weight, by decide +kernel⟩
set_option maxRecDepth 4000 in
theorem c_X6_weight {l : Launch} {D : va_G} {t : Nat → ClassId} {b : Nat → Nat} {I : Nat → Int32} {F : Nat → Nat → Int32} {K : Cfg} (hK : CFG K I F) (hW : WFK K) (j : Nat) (h8 : 8 ≤ j) (hj : j < 13) {f : Nat → Nat} (hS : RA (kn K) (F j) f) (hal : alP K f) : CT l D t yX6_weight cX6_weight 5 (some .long) rX6_weight 0 0 [.ref (b 0), .ref (b j)] (WM b t I F) (RP (.long (lN (woN K f))) (WM b t I F)) := by
  refine CT.of (by decide +kernel) (by simp [lg_sl, Value.category]) (fun X C hR => ?_)
  refine xlocals (lv' := [(0, .ref (b 0)), (1, .ref (b j))]) rfl ?_
  have fn24 := hW.n24; have fm60 := hW.m60; have fk2 := hW.k2; have fu1 := hW.u1; have fu9 := hW.u9; have fv1 := hW.v1; have fv9 := hW.v9
  refine xlconst (v := lN 1) C dX6_weight_0 (by decide) ?_
  refine xlstore_n (lv' := [(2, .long (lN 1)), (0, .ref (b 0)), (1, .ref (b j))]) C dX6_weight_1 (by decide) rfl ?_
  refine xiconst (v := nI 0) C dX6_weight_2 (by decide) ?_
  refine xistore (lv' := [(4, .int (nI 0)), (2, .long (lN 1)), (0, .ref (b 0)), (1, .ref (b j))]) C dX6_weight_3 (by decide) rfl ?_
  refine xlocals (lv' := [(4, .int (nI 0)), (2, .long (lN (pr (fun k => lwN K (f (kla K k)) (f (klb K k))) 0))), (0, .ref (b 0)), (1, .ref (b j))]) (by rfl) ?_
  have LP5 : ∀ (fu5 : Nat) (k : Nat) (hk : k ≤ km K) (hk0 : k = 0 ∨ kk K = 0), km K - k < fu5 → XW X 0 0 (WM b t I F) [(0, .ref (b 0)), (1, .ref (b j)), (2, .long (lN (pr (fun k => lwN K (f (kla K k)) (f (klb K k))) k))), (4, .int (nI k))] 5 [] := by
    intro fu5
    induction fu5 with
    | zero => intro k hk hk0 hm5; exact absurd hm5 (Nat.not_lt_zero _)
    | succ fu5 ih5 =>
      intro k hk hk0 hm5
      refine xiload C 3 rfl dX6_weight_5 ?_
      refine xaload_n C 0 rfl dX6_weight_7 ?_
      refine gX6_79K C hK dX6_weight_8 ?_
      refine xicmp_geN C 64 dX6_weight_11 (by decide) (by omega) (by omega) (fun h11 => ?_) (fun h11 => ?_)
      ·
        have hke : k = km K ∨ ¬ kk K = 0 := Or.inl (by omega)
        refine xiconst (v := nI 0) C dX6_weight_64 (by decide) ?_
        refine xistore (lv' := [(4, .int (nI 0)), (0, .ref (b 0)), (1, .ref (b j)), (2, .long (lN (pr (fun k => lwN K (f (kla K k)) (f (klb K k))) k)))]) C dX6_weight_65 (by decide) rfl ?_
        refine xlocals (lv' := [(4, .int (nI 0)), (0, .ref (b 0)), (1, .ref (b j)), (2, .long (lN (pr (fun k => lwN K (f (kla K k)) (f (klb K k))) k * pr (fun p => pwN K p (f p)) 0)))]) (by rw [show pr (fun p => pwN K p (f p)) 0 = 1 from rfl, Nat.mul_one]) ?_
        have LP67 : ∀ (fu67 : Nat) (i : Nat) (hi : i ≤ kn K) (hi0 : i = 0 ∨ kk K = 2), kn K - i < fu67 → XW X 0 0 (WM b t I F) [(0, .ref (b 0)), (1, .ref (b j)), (2, .long (lN (pr (fun k => lwN K (f (kla K k)) (f (klb K k))) k * pr (fun p => pwN K p (f p)) i))), (4, .int (nI i))] 67 [] := by
          intro fu67
          induction fu67 with
          | zero => intro i hi hi0 hm67; exact absurd hm67 (Nat.not_lt_zero _)
          | succ fu67 ih67 =>
            intro i hi hi0 hm67
            refine xiload C 3 rfl dX6_weight_67 ?_
            refine xaload_n C 0 rfl dX6_weight_69 ?_
            refine gX6_53K C hK dX6_weight_70 ?_
            refine xicmp_geN C 114 dX6_weight_73 (by decide) (by omega) (by omega) (fun h73 => ?_) (fun h73 => ?_)
            ·
              refine xlload_n C 2 rfl dX6_weight_114 ?_
              exact xlret C hR dX6_weight_115 (RPl (wt_al hal hk0 hke hi0 (Or.inl (by omega))))
            ·
              refine xaload_n C 0 rfl dX6_weight_76 ?_
              refine gX6_90K C hK dX6_weight_77 ?_
              refine xiconst (v := nI 2) C dX6_weight_80 (by decide) ?_
              refine xicmp_neN C 114 dX6_weight_81 (by decide) (by omega) (by omega) (fun h81 => ?_) (fun h81 => ?_)
              ·
                refine xlload_n C 2 rfl dX6_weight_114 ?_
                exact xlret C hR dX6_weight_115 (RPl (wt_al hal hk0 hke hi0 (Or.inr h81)))
              ·
                refine xlload_n C 2 rfl dX6_weight_84 ?_
                refine xaload_n C 1 rfl dX6_weight_85 ?_
                refine xiload C 3 rfl dX6_weight_86 ?_
                refine ma_st C hW j h8 hj hS i (by omega) dX6_weight_88 ?_
                have fb88 := (hS i (by omega)).2
                refine xiconst (v := nI 1) C dX6_weight_89 (by decide) ?_
                refine xicmp_neN C 101 dX6_weight_90 (by decide) (by omega) (by omega) (fun h90 => ?_) (fun h90 => ?_)
                ·
                  refine xaload_n C 0 rfl dX6_weight_101 ?_
                  refine gX6_35K C hK dX6_weight_102 ?_
                  refine xi2lN C (by omega) dX6_weight_105 ?_
                  refine xlmulN C dX6_weight_106 ?_
                  refine xtopl (y := lN (pr (fun k => lwN K (f (kla K k)) (f (klb K k))) k * pr (fun p => pwN K p (f p)) (i + 1))) (wstep (g := (fun p => pwN K p (f p))) (pw_2 hal h81 (by omega) (if_neg h90))) ?_
                  refine xlstore_n (lv' := [(2, .long (lN (pr (fun k => lwN K (f (kla K k)) (f (klb K k))) k * pr (fun p => pwN K p (f p)) (i + 1)))), (0, .ref (b 0)), (1, .ref (b j)), (4, .int (nI i))]) C dX6_weight_107 (by decide) rfl ?_
                  refine xiincN (lv' := [(4, .int (nI (i + 1))), (2, .long (lN (pr (fun k => lwN K (f (kla K k)) (f (klb K k))) k * pr (fun p => pwN K p (f p)) (i + 1)))), (0, .ref (b 0)), (1, .ref (b j))]) C 3 rfl dX6_weight_108 (by decide) rfl ?_
                  refine xgoto C 67 dX6_weight_111 (by decide) ?_
                  refine xsub [2, 3, 1, 0] rfl ?_
                  exact ih67 (i + 1) (by omega) (Or.inr h81) (by omega)
                ·
                  refine xaload_n C 0 rfl dX6_weight_93 ?_
                  refine gX6_31K C hK dX6_weight_94 ?_
                  refine xi2lN C (by omega) dX6_weight_97 ?_
                  refine xgoto C 106 dX6_weight_98 (by decide) ?_
                  refine xlmulN C dX6_weight_106 ?_
                  refine xtopl (y := lN (pr (fun k => lwN K (f (kla K k)) (f (klb K k))) k * pr (fun p => pwN K p (f p)) (i + 1))) (wstep (g := (fun p => pwN K p (f p))) (pw_2 hal h81 (by omega) (if_pos h90))) ?_
                  refine xlstore_n (lv' := [(2, .long (lN (pr (fun k => lwN K (f (kla K k)) (f (klb K k))) k * pr (fun p => pwN K p (f p)) (i + 1)))), (0, .ref (b 0)), (1, .ref (b j)), (4, .int (nI i))]) C dX6_weight_107 (by decide) rfl ?_
                  refine xiincN (lv' := [(4, .int (nI (i + 1))), (2, .long (lN (pr (fun k => lwN K (f (kla K k)) (f (klb K k))) k * pr (fun p => pwN K p (f p)) (i + 1)))), (0, .ref (b 0)), (1, .ref (b j))]) C 3 rfl dX6_weight_108 (by decide) rfl ?_
                  refine xgoto C 67 dX6_weight_111 (by decide) ?_
                  refine xsub [2, 3, 1, 0] rfl ?_
                  exact ih67 (i + 1) (by omega) (Or.inr h81) (by omega)
        refine xsub [1, 2, 3, 0] rfl ?_
        exact LP67 _ 0 (Nat.zero_le _) (Or.inl rfl) (Nat.lt_succ_self _)
      ·
        refine xaload_n C 0 rfl dX6_weight_14 ?_
        refine gX6_90K C hK dX6_weight_15 ?_
        refine xif_neN C 64 dX6_weight_18 (by decide) (by omega) (fun h18 => ?_) (fun h18 => ?_)
        ·
          have hke : k = km K ∨ ¬ kk K = 0 := Or.inr h18
          refine xiconst (v := nI 0) C dX6_weight_64 (by decide) ?_
          refine xistore (lv' := [(4, .int (nI 0)), (0, .ref (b 0)), (1, .ref (b j)), (2, .long (lN (pr (fun k => lwN K (f (kla K k)) (f (klb K k))) k)))]) C dX6_weight_65 (by decide) rfl ?_
          refine xlocals (lv' := [(4, .int (nI 0)), (0, .ref (b 0)), (1, .ref (b j)), (2, .long (lN (pr (fun k => lwN K (f (kla K k)) (f (klb K k))) k * pr (fun p => pwN K p (f p)) 0)))]) (by rw [show pr (fun p => pwN K p (f p)) 0 = 1 from rfl, Nat.mul_one]) ?_
          have LP67 : ∀ (fu67 : Nat) (i : Nat) (hi : i ≤ kn K) (hi0 : i = 0 ∨ kk K = 2), kn K - i < fu67 → XW X 0 0 (WM b t I F) [(0, .ref (b 0)), (1, .ref (b j)), (2, .long (lN (pr (fun k => lwN K (f (kla K k)) (f (klb K k))) k * pr (fun p => pwN K p (f p)) i))), (4, .int (nI i))] 67 [] := by
            intro fu67
            induction fu67 with
            | zero => intro i hi hi0 hm67; exact absurd hm67 (Nat.not_lt_zero _)
            | succ fu67 ih67 =>
              intro i hi hi0 hm67
              refine xiload C 3 rfl dX6_weight_67 ?_
              refine xaload_n C 0 rfl dX6_weight_69 ?_
              refine gX6_53K C hK dX6_weight_70 ?_
              refine xicmp_geN C 114 dX6_weight_73 (by decide) (by omega) (by omega) (fun h73 => ?_) (fun h73 => ?_)
              ·
                refine xlload_n C 2 rfl dX6_weight_114 ?_
                exact xlret C hR dX6_weight_115 (RPl (wt_al hal hk0 hke hi0 (Or.inl (by omega))))
              ·
                refine xaload_n C 0 rfl dX6_weight_76 ?_
                refine gX6_90K C hK dX6_weight_77 ?_
                refine xiconst (v := nI 2) C dX6_weight_80 (by decide) ?_
                refine xicmp_neN C 114 dX6_weight_81 (by decide) (by omega) (by omega) (fun h81 => ?_) (fun h81 => ?_)
                ·
                  refine xlload_n C 2 rfl dX6_weight_114 ?_
                  exact xlret C hR dX6_weight_115 (RPl (wt_al hal hk0 hke hi0 (Or.inr h81)))
                ·
                  refine xlload_n C 2 rfl dX6_weight_84 ?_
                  refine xaload_n C 1 rfl dX6_weight_85 ?_
                  refine xiload C 3 rfl dX6_weight_86 ?_
                  refine ma_st C hW j h8 hj hS i (by omega) dX6_weight_88 ?_
                  have fb88 := (hS i (by omega)).2
                  refine xiconst (v := nI 1) C dX6_weight_89 (by decide) ?_
                  refine xicmp_neN C 101 dX6_weight_90 (by decide) (by omega) (by omega) (fun h90 => ?_) (fun h90 => ?_)
                  ·
                    refine xaload_n C 0 rfl dX6_weight_101 ?_
                    refine gX6_35K C hK dX6_weight_102 ?_
                    refine xi2lN C (by omega) dX6_weight_105 ?_
                    refine xlmulN C dX6_weight_106 ?_
                    refine xtopl (y := lN (pr (fun k => lwN K (f (kla K k)) (f (klb K k))) k * pr (fun p => pwN K p (f p)) (i + 1))) (wstep (g := (fun p => pwN K p (f p))) (pw_2 hal h81 (by omega) (if_neg h90))) ?_
                    refine xlstore_n (lv' := [(2, .long (lN (pr (fun k => lwN K (f (kla K k)) (f (klb K k))) k * pr (fun p => pwN K p (f p)) (i + 1)))), (0, .ref (b 0)), (1, .ref (b j)), (4, .int (nI i))]) C dX6_weight_107 (by decide) rfl ?_
                    refine xiincN (lv' := [(4, .int (nI (i + 1))), (2, .long (lN (pr (fun k => lwN K (f (kla K k)) (f (klb K k))) k * pr (fun p => pwN K p (f p)) (i + 1)))), (0, .ref (b 0)), (1, .ref (b j))]) C 3 rfl dX6_weight_108 (by decide) rfl ?_
                    refine xgoto C 67 dX6_weight_111 (by decide) ?_
                    refine xsub [2, 3, 1, 0] rfl ?_
                    exact ih67 (i + 1) (by omega) (Or.inr h81) (by omega)
                  ·
                    refine xaload_n C 0 rfl dX6_weight_93 ?_
                    refine gX6_31K C hK dX6_weight_94 ?_
                    refine xi2lN C (by omega) dX6_weight_97 ?_
                    refine xgoto C 106 dX6_weight_98 (by decide) ?_
                    refine xlmulN C dX6_weight_106 ?_
                    refine xtopl (y := lN (pr (fun k => lwN K (f (kla K k)) (f (klb K k))) k * pr (fun p => pwN K p (f p)) (i + 1))) (wstep (g := (fun p => pwN K p (f p))) (pw_2 hal h81 (by omega) (if_pos h90))) ?_
                    refine xlstore_n (lv' := [(2, .long (lN (pr (fun k => lwN K (f (kla K k)) (f (klb K k))) k * pr (fun p => pwN K p (f p)) (i + 1)))), (0, .ref (b 0)), (1, .ref (b j)), (4, .int (nI i))]) C dX6_weight_107 (by decide) rfl ?_
                    refine xiincN (lv' := [(4, .int (nI (i + 1))), (2, .long (lN (pr (fun k => lwN K (f (kla K k)) (f (klb K k))) k * pr (fun p => pwN K p (f p)) (i + 1)))), (0, .ref (b 0)), (1, .ref (b j))]) C 3 rfl dX6_weight_108 (by decide) rfl ?_
                    refine xgoto C 67 dX6_weight_111 (by decide) ?_
                    refine xsub [2, 3, 1, 0] rfl ?_
                    exact ih67 (i + 1) (by omega) (Or.inr h81) (by omega)
          refine xsub [1, 2, 3, 0] rfl ?_
          exact LP67 _ 0 (Nat.zero_le _) (Or.inl rfl) (Nat.lt_succ_self _)
        ·
          refine xlload_n C 2 rfl dX6_weight_21 ?_
          refine xaload_n C 1 rfl dX6_weight_22 ?_
          refine xaload_n C 0 rfl dX6_weight_23 ?_
          refine gX6_25 C dX6_weight_24 ?_
          refine xiload C 3 rfl dX6_weight_27 ?_
          refine ma_la C hK hW k (by omega) dX6_weight_29 ?_
          have fb29 := (hW.la (by omega))
          refine ma_st C hW j h8 hj hS (kla K k) (by omega) dX6_weight_30 ?_
          have fb30 := (hS (kla K k) (by omega)).2
          refine xaload_n C 1 rfl dX6_weight_31 ?_
          refine xaload_n C 0 rfl dX6_weight_32 ?_
          refine gX6_28 C dX6_weight_33 ?_
          refine xiload C 3 rfl dX6_weight_36 ?_
          refine ma_lb C hK hW k (by omega) dX6_weight_38 ?_
          have fb38 := (hW.lb (by omega))
          refine ma_st C hW j h8 hj hS (klb K k) (by omega) dX6_weight_39 ?_
          have fb39 := (hS (klb K k) (by omega)).2
          refine xicmp_neN C 51 dX6_weight_40 (by decide) (by omega) (by omega) (fun h40 => ?_) (fun h40 => ?_)
          ·
            refine xaload_n C 0 rfl dX6_weight_51 ?_
            refine gX6_35K C hK dX6_weight_52 ?_
            refine xi2lN C (by omega) dX6_weight_55 ?_
            refine xlmulN C dX6_weight_56 ?_
            refine xtopl (y := lN (pr (fun k => lwN K (f (kla K k)) (f (klb K k))) (k + 1))) (wstep1 (g := (fun k => lwN K (f (kla K k)) (f (klb K k)))) (lwn_0 h18 h40)) ?_
            refine xlstore_n (lv' := [(2, .long (lN (pr (fun k => lwN K (f (kla K k)) (f (klb K k))) (k + 1)))), (0, .ref (b 0)), (1, .ref (b j)), (4, .int (nI k))]) C dX6_weight_57 (by decide) rfl ?_
            refine xiincN (lv' := [(4, .int (nI (k + 1))), (2, .long (lN (pr (fun k => lwN K (f (kla K k)) (f (klb K k))) (k + 1)))), (0, .ref (b 0)), (1, .ref (b j))]) C 3 rfl dX6_weight_58 (by decide) rfl ?_
            refine xgoto C 5 dX6_weight_61 (by decide) ?_
            refine xsub [2, 3, 1, 0] rfl ?_
            exact ih5 (k + 1) (by omega) (Or.inr h18) (by omega)
          ·
            refine xaload_n C 0 rfl dX6_weight_43 ?_
            refine gX6_31K C hK dX6_weight_44 ?_
            refine xi2lN C (by omega) dX6_weight_47 ?_
            refine xgoto C 56 dX6_weight_48 (by decide) ?_
            refine xlmulN C dX6_weight_56 ?_
            refine xtopl (y := lN (pr (fun k => lwN K (f (kla K k)) (f (klb K k))) (k + 1))) (wstep1 (g := (fun k => lwN K (f (kla K k)) (f (klb K k)))) (lwe_0 h18 h40)) ?_
            refine xlstore_n (lv' := [(2, .long (lN (pr (fun k => lwN K (f (kla K k)) (f (klb K k))) (k + 1)))), (0, .ref (b 0)), (1, .ref (b j)), (4, .int (nI k))]) C dX6_weight_57 (by decide) rfl ?_
            refine xiincN (lv' := [(4, .int (nI (k + 1))), (2, .long (lN (pr (fun k => lwN K (f (kla K k)) (f (klb K k))) (k + 1)))), (0, .ref (b 0)), (1, .ref (b j))]) C 3 rfl dX6_weight_58 (by decide) rfl ?_
            refine xgoto C 5 dX6_weight_61 (by decide) ?_
            refine xsub [2, 3, 1, 0] rfl ?_
            exact ih5 (k + 1) (by omega) (Or.inr h18) (by omega)
  refine xsub [2, 3, 1, 0] rfl ?_
  exact LP5 _ 0 (Nat.zero_le _) (Or.inl rfl) (Nat.lt_succ_self _)
theorem dX6_over_0 : decode cX6_over 0 = .ok (.lconst 0, 1) := by decide +kernel
theorem dX6_over_1 : decode cX6_over 1 = .ok (.lstore 4, 2) := by decide +kernel
theorem dX6_over_3 : decode cX6_over 3 = .ok (.aload_n 0, 1) := by decide +kernel
theorem dX6_over_4 : decode cX6_over 4 = .ok (.invokevirtual 147, 3) := by decide +kernel
theorem dX6_over_7 : decode cX6_over 7 = .ok (.iconst 1, 1) := by decide +kernel
theorem dX6_over_8 : decode cX6_over 8 = .ok (.istore 6, 2) := by decide +kernel
theorem dX6_over_10 : decode cX6_over 10 = .ok (.iload 6, 2) := by decide +kernel
theorem dX6_over_12 : decode cX6_over 12 = .ok (.ifCond .eq 95, 3) := by decide +kernel
theorem dX6_over_15 : decode cX6_over 15 = .ok (.aload_n 0, 1) := by decide +kernel
theorem dX6_over_16 : decode cX6_over 16 = .ok (.aload_n 0, 1) := by decide +kernel
theorem dX6_over_17 : decode cX6_over 17 = .ok (.getfield 50, 3) := by decide +kernel
theorem dX6_over_20 : decode cX6_over 20 = .ok (.invokevirtual 96, 3) := by decide +kernel
theorem dX6_over_23 : decode cX6_over 23 = .ok (.ifCond .eq 75, 3) := by decide +kernel
theorem dX6_over_26 : decode cX6_over 26 = .ok (.iload_n 1, 1) := by decide +kernel
theorem dX6_over_27 : decode cX6_over 27 = .ok (.ifCond .ne 7, 3) := by decide +kernel
theorem dX6_over_30 : decode cX6_over 30 = .ok (.lconst 1, 1) := by decide +kernel
theorem dX6_over_31 : decode cX6_over 31 = .ok (.goto 11, 3) := by decide +kernel
theorem dX6_over_34 : decode cX6_over 34 = .ok (.aload_n 0, 1) := by decide +kernel
theorem dX6_over_35 : decode cX6_over 35 = .ok (.aload_n 0, 1) := by decide +kernel
theorem dX6_over_36 : decode cX6_over 36 = .ok (.getfield 50, 3) := by decide +kernel
theorem dX6_over_39 : decode cX6_over 39 = .ok (.invokevirtual 150, 3) := by decide +kernel
theorem dX6_over_42 : decode cX6_over 42 = .ok (.lstore 7, 2) := by decide +kernel
theorem dX6_over_44 : decode cX6_over 44 = .ok (.lload 4, 2) := by decide +kernel
theorem dX6_over_46 : decode cX6_over 46 = .ok (.iload_n 1, 1) := by decide +kernel
theorem dX6_over_47 : decode cX6_over 47 = .ok (.iconst 2, 1) := by decide +kernel
theorem dX6_over_48 : decode cX6_over 48 = .ok (.if_icmp .ge 8, 3) := by decide +kernel
theorem dX6_over_51 : decode cX6_over 51 = .ok (.lload 7, 2) := by decide +kernel
theorem dX6_over_53 : decode cX6_over 53 = .ok (.goto 42, 3) := by decide +kernel
theorem dX6_over_56 : decode cX6_over 56 = .ok (.iload_n 1, 1) := by decide +kernel
theorem dX6_over_57 : decode cX6_over 57 = .ok (.iconst 2, 1) := by decide +kernel
theorem dX6_over_58 : decode cX6_over 58 = .ok (.if_icmp .ne 16, 3) := by decide +kernel
theorem dX6_over_61 : decode cX6_over 61 = .ok (.lload 7, 2) := by decide +kernel
theorem dX6_over_63 : decode cX6_over 63 = .ok (.aload_n 0, 1) := by decide +kernel
theorem dX6_over_64 : decode cX6_over 64 = .ok (.getfield 50, 3) := by decide +kernel
theorem dX6_over_67 : decode cX6_over 67 = .ok (.iload_n 2, 1) := by decide +kernel
theorem dX6_over_68 : decode cX6_over 68 = .ok (.iaload, 1) := by decide +kernel
theorem dX6_over_69 : decode cX6_over 69 = .ok (.i2l, 1) := by decide +kernel
theorem dX6_over_70 : decode cX6_over 70 = .ok (.lmul, 1) := by decide +kernel
theorem dX6_over_71 : decode cX6_over 71 = .ok (.goto 24, 3) := by decide +kernel
theorem dX6_over_74 : decode cX6_over 74 = .ok (.aload_n 0, 1) := by decide +kernel
theorem dX6_over_75 : decode cX6_over 75 = .ok (.getfield 50, 3) := by decide +kernel
theorem dX6_over_78 : decode cX6_over 78 = .ok (.iload_n 2, 1) := by decide +kernel
theorem dX6_over_79 : decode cX6_over 79 = .ok (.iaload, 1) := by decide +kernel
theorem dX6_over_80 : decode cX6_over 80 = .ok (.aload_n 0, 1) := by decide +kernel
theorem dX6_over_81 : decode cX6_over 81 = .ok (.getfield 50, 3) := by decide +kernel
theorem dX6_over_84 : decode cX6_over 84 = .ok (.iload_n 3, 1) := by decide +kernel
theorem dX6_over_85 : decode cX6_over 85 = .ok (.iaload, 1) := by decide +kernel
theorem dX6_over_86 : decode cX6_over 86 = .ok (.if_icmp .ne 8, 3) := by decide +kernel
theorem dX6_over_89 : decode cX6_over 89 = .ok (.lload 7, 2) := by decide +kernel
theorem dX6_over_91 : decode cX6_over 91 = .ok (.goto 4, 3) := by decide +kernel
theorem dX6_over_94 : decode cX6_over 94 = .ok (.lconst 0, 1) := by decide +kernel
theorem dX6_over_95 : decode cX6_over 95 = .ok (.ladd, 1) := by decide +kernel
theorem dX6_over_96 : decode cX6_over 96 = .ok (.lstore 4, 2) := by decide +kernel
theorem dX6_over_98 : decode cX6_over 98 = .ok (.aload_n 0, 1) := by decide +kernel
theorem dX6_over_99 : decode cX6_over 99 = .ok (.invokevirtual 154, 3) := by decide +kernel
theorem dX6_over_102 : decode cX6_over 102 = .ok (.istore 6, 2) := by decide +kernel
theorem dX6_over_104 : decode cX6_over 104 = .ok (.goto (-94), 3) := by decide +kernel
theorem dX6_over_107 : decode cX6_over 107 = .ok (.lload 4, 2) := by decide +kernel
theorem dX6_over_109 : decode cX6_over 109 = .ok (.lreturn, 1) := by decide +kernel
def rX6_over : Room := { frames := 2, cells := 0, slots := 0, locals := 47 }
theorem yk_X6_over : YK yX6_over cX6_over 9 (some .long) 3 := ⟨xim_X6_over, xse_X6_over, xin_X6, xco_X6_over, by decide +kernel⟩
set_option maxRecDepth 4000 in
theorem c_X6_over {l : Launch} {D : va_G} {t : Nat → ClassId} {b : Nat → Nat} {I : Nat → Int32} {F : Nat → Nat → Int32} {K : Cfg} (hK : CFG K I F) (hW : WFK K) (w p q : Nat) (hw : w ≤ 3) (hp : p < kn K) (hq : q < kn K) : CT l D t yX6_over cX6_over 9 (some .long) rX6_over 0 0 [.ref (b 0), .int (nI w), .int (nI p), .int (nI q)] (WM b t I F) (EP (fun v w' => v = .long (lN (suN K w p q)) ∧ ∃ F' : Nat → Nat → Int32, w' = WM b t I F' ∧ ∀ z, z ≠ 11 → F' z = F z)) := by
  refine CT.of (by decide +kernel) (by simp [lg_sl, Value.category]) (fun X C hR => ?_)
  refine xlocals (lv' := [(0, .ref (b 0)), (1, .int (nI w)), (2, .int (nI p)), (3, .int (nI q))]) rfl ?_
  have fn24 := hW.n24; have fm60 := hW.m60; have fk2 := hW.k2; have fu1 := hW.u1; have fu9 := hW.u9; have fv1 := hW.v1; have fv9 := hW.v9
  refine xlconst (v := lN 0) C dX6_over_0 (by decide) ?_
  refine xlstore (lv' := [(4, .long (lN 0)), (0, .ref (b 0)), (1, .int (nI w)), (2, .int (nI p)), (3, .int (nI q))]) C dX6_over_1 (by decide) rfl ?_
  refine xaload_n C 1 rfl dX6_over_3 ?_
  refine xcVV C (c_X6_first hK hW) yk_X6_first 0 rfl rfl xml_X6_147 ⟨⟨Nat.le_of_ble_eq_true rfl, Nat.le_of_ble_eq_true rfl⟩, ⟨rfl, rfl⟩, ⟨Nat.zero_le _, Nat.zero_le _⟩⟩ rfl (Nat.le_of_ble_eq_true rfl) dX6_over_4 (fun wE hE => ?_)
  obtain ⟨FA, rfl, hXA, hA0⟩ := hE
  have hKA : CFG K I FA := hK.of (fun _ _ => rfl) (fun z hz => hXA z (by omega))
  refine xiconst (v := nI 1) C dX6_over_7 (by decide) ?_
  refine xistore (lv' := [(6, .int (nI 1)), (4, .long (lN 0)), (0, .ref (b 0)), (1, .int (nI w)), (2, .int (nI p)), (3, .int (nI q))]) C dX6_over_8 (by decide) rfl ?_
  refine xlocals (lv' := [(6, .int (nI (bn (0 < stN K)))), (4, .long (lN (sm (fun i => trN K w p q (dgN K i)) 0))), (0, .ref (b 0)), (1, .int (nI w)), (2, .int (nI p)), (3, .int (nI q))]) (by rw [bn_t (P := 0 < stN K) (pr_pos (gN_pos K) _)]; rfl) ?_
  have LP10 : ∀ (fu10 : Nat) (x : Nat) (FB : Nat → Nat → Int32) (hx : x ≤ stN K) (hB : RA (kn K) (FB 11) (dgN K x)) (hXB : (∀ z, z ≠ 11 → FB z = F z)), stN K - x < fu10 → XW X 0 0 (WM b t I FB) [(0, .ref (b 0)), (1, .int (nI w)), (2, .int (nI p)), (3, .int (nI q)), (4, .long (lN (sm (fun i => trN K w p q (dgN K i)) x))), (6, .int (nI (bn (x < stN K))))] 10 [] := by
    intro fu10
    induction fu10 with
    | zero => intro x FB hx hB hXB hm10; exact absurd hm10 (Nat.not_lt_zero _)
    | succ fu10 ih10 =>
      intro x FB hx hB hXB hm10
      have hKB : CFG K I FB := hK.of (fun _ _ => rfl) (fun z hz => hXB z (by omega))
      refine xiload C 5 rfl dX6_over_10 ?_
      refine xif_eqN C 107 dX6_over_12 (by decide) (bn_lt _) (fun h12 => ?_) (fun h12 => ?_)
      ·
        have h12 := bn_0 h12
        refine xlload C 4 rfl dX6_over_107 ?_
        exact xlret C hR dX6_over_109 (⟨_, rfl, by (have e : x = stN K := (by omega)); subst e; rfl, FB, rfl, hXB⟩)
      ·
        have h12 := bn_1 h12
        refine xaload_n C 0 rfl dX6_over_15 ?_
        refine xaload_n C 0 rfl dX6_over_16 ?_
        refine gX6_50 C dX6_over_17 ?_
        refine xcVR C (c_X6_isAllowed hKB hW 11 (by decide) (by decide) hB (fun z hz => dg_top hW hz)) yk_X6_isAllowed 0 rfl rfl xml_X6_96 ⟨⟨Nat.le_of_ble_eq_true rfl, Nat.le_of_ble_eq_true rfl⟩, ⟨rfl, rfl⟩, ⟨Nat.zero_le _, Nat.zero_le _⟩⟩ rfl (Nat.le_of_ble_eq_true rfl) dX6_over_20 ?_
        refine xif_eqN C 98 dX6_over_23 (by decide) (bn_lt _) (fun h23 => ?_) (fun h23 => ?_)
        ·
          refine xlocals (lv' := [(0, .ref (b 0)), (1, .int (nI w)), (2, .int (nI p)), (3, .int (nI q)), (4, .long (lN (sm (fun i => trN K w p q (dgN K i)) (x + 1)))), (6, .int (nI (bn (x < stN K))))]) (by rw [ov_no (bn_0 h23)]) ?_
          refine xaload_n C 0 rfl dX6_over_98 ?_
          refine xcVE C (c_X6_next hKB hW x h12 hB) yk_X6_next 0 rfl rfl xml_X6_154 ⟨⟨Nat.le_of_ble_eq_true rfl, Nat.le_of_ble_eq_true rfl⟩, ⟨rfl, rfl⟩, ⟨Nat.zero_le _, Nat.zero_le _⟩⟩ rfl (Nat.le_of_ble_eq_true rfl) dX6_over_99 (fun vE wE hE => ?_)
          obtain ⟨rfl, FC, rfl, hXc, hC⟩ := hE
          have hXC : (∀ z, z ≠ 11 → FC z = F z) := fun z hz => (hXc z hz).trans (hXB z hz)
          refine xistore (lv' := [(6, .int (nI (bn (x + 1 < stN K)))), (0, .ref (b 0)), (1, .int (nI w)), (2, .int (nI p)), (3, .int (nI q)), (4, .long (lN (sm (fun i => trN K w p q (dgN K i)) (x + 1))))]) C dX6_over_102 (by decide) rfl ?_
          refine xgoto C 10 dX6_over_104 (by decide) ?_
          refine xsub [1, 2, 3, 4, 5, 0] rfl ?_
          exact ih10 (x + 1) FC (by omega) hC hXC (by omega)
        ·
          refine xiload_n C 1 rfl dX6_over_26 ?_
          refine xif_neN C 34 dX6_over_27 (by decide) (by omega) (fun h27 => ?_) (fun h27 => ?_)
          ·
            refine xaload_n C 0 rfl dX6_over_34 ?_
            refine xaload_n C 0 rfl dX6_over_35 ?_
            refine gX6_50 C dX6_over_36 ?_
            refine xcVR C (c_X6_weight hKB hW 11 (by decide) (by decide) hB (bn_1 h23)) yk_X6_weight 0 rfl rfl xml_X6_150 ⟨⟨Nat.le_of_ble_eq_true rfl, Nat.le_of_ble_eq_true rfl⟩, ⟨rfl, rfl⟩, ⟨Nat.zero_le _, Nat.zero_le _⟩⟩ rfl (Nat.le_of_ble_eq_true rfl) dX6_over_39 ?_
            refine xlstore (lv' := [(7, .long (lN (woN K (dgN K x)))), (0, .ref (b 0)), (1, .int (nI w)), (2, .int (nI p)), (3, .int (nI q)), (4, .long (lN (sm (fun i => trN K w p q (dgN K i)) x))), (6, .int (nI (bn (x < stN K))))]) C dX6_over_42 (by decide) rfl ?_
            refine xlload C 5 rfl dX6_over_44 ?_
            refine xiload_n C 2 rfl dX6_over_46 ?_
            refine xiconst (v := nI 2) C dX6_over_47 (by decide) ?_
            refine xicmp_geN C 56 dX6_over_48 (by decide) (by omega) (by omega) (fun h48 => ?_) (fun h48 => ?_)
            ·
              refine xiload_n C 2 rfl dX6_over_56 ?_
              refine xiconst (v := nI 2) C dX6_over_57 (by decide) ?_
              refine xicmp_neN C 74 dX6_over_58 (by decide) (by omega) (by omega) (fun h58 => ?_) (fun h58 => ?_)
              ·
                refine xaload_n C 1 rfl dX6_over_74 ?_
                refine gX6_50 C dX6_over_75 ?_
                refine xiload_n C 3 rfl dX6_over_78 ?_
                refine ma_st C hW 11 (by decide) (by decide) hB p (by omega) dX6_over_79 ?_
                have fb79 := (hB p (by omega)).2
                refine xaload_n C 1 rfl dX6_over_80 ?_
                refine gX6_50 C dX6_over_81 ?_
                refine xiload_n C 4 rfl dX6_over_84 ?_
                refine ma_st C hW 11 (by decide) (by decide) hB q (by omega) dX6_over_85 ?_
                have fb85 := (hB q (by omega)).2
                refine xicmp_neN C 94 dX6_over_86 (by decide) (by omega) (by omega) (fun h86 => ?_) (fun h86 => ?_)
                ·
                  refine xlconst (v := lN 0) C dX6_over_94 (by decide) ?_
                  refine xladdN C dX6_over_95 ?_
                  refine xtopl (y := lN (sm (fun i => trN K w p q (dgN K i)) (x + 1))) (ov_3n (show w = 3 by omega) h86) ?_
                  refine xlstore (lv' := [(4, .long (lN (sm (fun i => trN K w p q (dgN K i)) (x + 1)))), (7, .long (lN (woN K (dgN K x)))), (0, .ref (b 0)), (1, .int (nI w)), (2, .int (nI p)), (3, .int (nI q)), (6, .int (nI (bn (x < stN K))))]) C dX6_over_96 (by decide) rfl ?_
                  refine xaload_n C 2 rfl dX6_over_98 ?_
                  refine xcVE C (c_X6_next hKB hW x h12 hB) yk_X6_next 0 rfl rfl xml_X6_154 ⟨⟨Nat.le_of_ble_eq_true rfl, Nat.le_of_ble_eq_true rfl⟩, ⟨rfl, rfl⟩, ⟨Nat.zero_le _, Nat.zero_le _⟩⟩ rfl (Nat.le_of_ble_eq_true rfl) dX6_over_99 (fun vE wE hE => ?_)
                  obtain ⟨rfl, FC, rfl, hXc, hC⟩ := hE
                  have hXC : (∀ z, z ≠ 11 → FC z = F z) := fun z hz => (hXc z hz).trans (hXB z hz)
                  refine xistore (lv' := [(6, .int (nI (bn (x + 1 < stN K)))), (4, .long (lN (sm (fun i => trN K w p q (dgN K i)) (x + 1)))), (7, .long (lN (woN K (dgN K x)))), (0, .ref (b 0)), (1, .int (nI w)), (2, .int (nI p)), (3, .int (nI q))]) C dX6_over_102 (by decide) rfl ?_
                  refine xgoto C 10 dX6_over_104 (by decide) ?_
                  refine xsub [3, 4, 5, 6, 1, 0] rfl ?_
                  exact ih10 (x + 1) FC (by omega) hC hXC (by omega)
                ·
                  refine xlload C 0 rfl dX6_over_89 ?_
                  refine xgoto C 95 dX6_over_91 (by decide) ?_
                  refine xladdN C dX6_over_95 ?_
                  refine xtopl (y := lN (sm (fun i => trN K w p q (dgN K i)) (x + 1))) (ov_3 (show w = 3 by omega) h86) ?_
                  refine xlstore (lv' := [(4, .long (lN (sm (fun i => trN K w p q (dgN K i)) (x + 1)))), (7, .long (lN (woN K (dgN K x)))), (0, .ref (b 0)), (1, .int (nI w)), (2, .int (nI p)), (3, .int (nI q)), (6, .int (nI (bn (x < stN K))))]) C dX6_over_96 (by decide) rfl ?_
                  refine xaload_n C 2 rfl dX6_over_98 ?_
                  refine xcVE C (c_X6_next hKB hW x h12 hB) yk_X6_next 0 rfl rfl xml_X6_154 ⟨⟨Nat.le_of_ble_eq_true rfl, Nat.le_of_ble_eq_true rfl⟩, ⟨rfl, rfl⟩, ⟨Nat.zero_le _, Nat.zero_le _⟩⟩ rfl (Nat.le_of_ble_eq_true rfl) dX6_over_99 (fun vE wE hE => ?_)
                  obtain ⟨rfl, FC, rfl, hXc, hC⟩ := hE
                  have hXC : (∀ z, z ≠ 11 → FC z = F z) := fun z hz => (hXc z hz).trans (hXB z hz)
                  refine xistore (lv' := [(6, .int (nI (bn (x + 1 < stN K)))), (4, .long (lN (sm (fun i => trN K w p q (dgN K i)) (x + 1)))), (7, .long (lN (woN K (dgN K x)))), (0, .ref (b 0)), (1, .int (nI w)), (2, .int (nI p)), (3, .int (nI q))]) C dX6_over_102 (by decide) rfl ?_
                  refine xgoto C 10 dX6_over_104 (by decide) ?_
                  refine xsub [3, 4, 5, 6, 1, 0] rfl ?_
                  exact ih10 (x + 1) FC (by omega) hC hXC (by omega)
              ·
                refine xlload C 0 rfl dX6_over_61 ?_
                refine xaload_n C 1 rfl dX6_over_63 ?_
                refine gX6_50 C dX6_over_64 ?_
                refine xiload_n C 3 rfl dX6_over_67 ?_
                refine ma_st C hW 11 (by decide) (by decide) hB p (by omega) dX6_over_68 ?_
                have fb68 := (hB p (by omega)).2
                refine xi2lN C (by omega) dX6_over_69 ?_
                refine xlmulN C dX6_over_70 ?_
                refine xgoto C 95 dX6_over_71 (by decide) ?_
                refine xladdN C dX6_over_95 ?_
                refine xtopl (y := lN (sm (fun i => trN K w p q (dgN K i)) (x + 1))) (ov_2 h58) ?_
                refine xlstore (lv' := [(4, .long (lN (sm (fun i => trN K w p q (dgN K i)) (x + 1)))), (7, .long (lN (woN K (dgN K x)))), (0, .ref (b 0)), (1, .int (nI w)), (2, .int (nI p)), (3, .int (nI q)), (6, .int (nI (bn (x < stN K))))]) C dX6_over_96 (by decide) rfl ?_
                refine xaload_n C 2 rfl dX6_over_98 ?_
                refine xcVE C (c_X6_next hKB hW x h12 hB) yk_X6_next 0 rfl rfl xml_X6_154 ⟨⟨Nat.le_of_ble_eq_true rfl, Nat.le_of_ble_eq_true rfl⟩, ⟨rfl, rfl⟩, ⟨Nat.zero_le _, Nat.zero_le _⟩⟩ rfl (Nat.le_of_ble_eq_true rfl) dX6_over_99 (fun vE wE hE => ?_)
                obtain ⟨rfl, FC, rfl, hXc, hC⟩ := hE
                have hXC : (∀ z, z ≠ 11 → FC z = F z) := fun z hz => (hXc z hz).trans (hXB z hz)
                refine xistore (lv' := [(6, .int (nI (bn (x + 1 < stN K)))), (4, .long (lN (sm (fun i => trN K w p q (dgN K i)) (x + 1)))), (7, .long (lN (woN K (dgN K x)))), (0, .ref (b 0)), (1, .int (nI w)), (2, .int (nI p)), (3, .int (nI q))]) C dX6_over_102 (by decide) rfl ?_
                refine xgoto C 10 dX6_over_104 (by decide) ?_
                refine xsub [3, 4, 5, 6, 1, 0] rfl ?_
                exact ih10 (x + 1) FC (by omega) hC hXC (by omega)
            ·
              refine xlload C 0 rfl dX6_over_51 ?_
              refine xgoto C 95 dX6_over_53 (by decide) ?_
              refine xladdN C dX6_over_95 ?_
              refine xtopl (y := lN (sm (fun i => trN K w p q (dgN K i)) (x + 1))) (ov_1 (show w = 1 by omega)) ?_
              refine xlstore (lv' := [(4, .long (lN (sm (fun i => trN K w p q (dgN K i)) (x + 1)))), (7, .long (lN (woN K (dgN K x)))), (0, .ref (b 0)), (1, .int (nI w)), (2, .int (nI p)), (3, .int (nI q)), (6, .int (nI (bn (x < stN K))))]) C dX6_over_96 (by decide) rfl ?_
              refine xaload_n C 2 rfl dX6_over_98 ?_
              refine xcVE C (c_X6_next hKB hW x h12 hB) yk_X6_next 0 rfl rfl xml_X6_154 ⟨⟨Nat.le_of_ble_eq_true rfl, Nat.le_of_ble_eq_true rfl⟩, ⟨rfl, rfl⟩, ⟨Nat.zero_le _, Nat.zero_le _⟩⟩ rfl (Nat.le_of_ble_eq_true rfl) dX6_over_99 (fun vE wE hE => ?_)
              obtain ⟨rfl, FC, rfl, hXc, hC⟩ := hE
              have hXC : (∀ z, z ≠ 11 → FC z = F z) := fun z hz => (hXc z hz).trans (hXB z hz)
              refine xistore (lv' := [(6, .int (nI (bn (x + 1 < stN K)))), (4, .long (lN (sm (fun i => trN K w p q (dgN K i)) (x + 1)))), (7, .long (lN (woN K (dgN K x)))), (0, .ref (b 0)), (1, .int (nI w)), (2, .int (nI p)), (3, .int (nI q))]) C dX6_over_102 (by decide) rfl ?_
              refine xgoto C 10 dX6_over_104 (by decide) ?_
              refine xsub [3, 4, 5, 6, 1, 0] rfl ?_
              exact ih10 (x + 1) FC (by omega) hC hXC (by omega)
          ·
            refine xlconst (v := lN 1) C dX6_over_30 (by decide) ?_
            refine xgoto C 42 dX6_over_31 (by decide) ?_
            refine xlstore (lv' := [(7, .long (lN 1)), (0, .ref (b 0)), (1, .int (nI w)), (2, .int (nI p)), (3, .int (nI q)), (4, .long (lN (sm (fun i => trN K w p q (dgN K i)) x))), (6, .int (nI (bn (x < stN K))))]) C dX6_over_42 (by decide) rfl ?_
            refine xlload C 5 rfl dX6_over_44 ?_
            refine xiload_n C 2 rfl dX6_over_46 ?_
            refine xiconst (v := nI 2) C dX6_over_47 (by decide) ?_
            refine xicmp_geN C 56 dX6_over_48 (by decide) (by omega) (by omega) (fun h48 => ?_) (fun h48 => ?_)
            · exact absurd h48 (by omega)
            ·
              refine xlload C 0 rfl dX6_over_51 ?_
              refine xgoto C 95 dX6_over_53 (by decide) ?_
              refine xladdN C dX6_over_95 ?_
              refine xtopl (y := lN (sm (fun i => trN K w p q (dgN K i)) (x + 1))) (ov_0 h27 (bn_1 h23)) ?_
              refine xlstore (lv' := [(4, .long (lN (sm (fun i => trN K w p q (dgN K i)) (x + 1)))), (7, .long (lN 1)), (0, .ref (b 0)), (1, .int (nI w)), (2, .int (nI p)), (3, .int (nI q)), (6, .int (nI (bn (x < stN K))))]) C dX6_over_96 (by decide) rfl ?_
              refine xaload_n C 2 rfl dX6_over_98 ?_
              refine xcVE C (c_X6_next hKB hW x h12 hB) yk_X6_next 0 rfl rfl xml_X6_154 ⟨⟨Nat.le_of_ble_eq_true rfl, Nat.le_of_ble_eq_true rfl⟩, ⟨rfl, rfl⟩, ⟨Nat.zero_le _, Nat.zero_le _⟩⟩ rfl (Nat.le_of_ble_eq_true rfl) dX6_over_99 (fun vE wE hE => ?_)
              obtain ⟨rfl, FC, rfl, hXc, hC⟩ := hE
              have hXC : (∀ z, z ≠ 11 → FC z = F z) := fun z hz => (hXc z hz).trans (hXB z hz)
              refine xistore (lv' := [(6, .int (nI (bn (x + 1 < stN K)))), (4, .long (lN (sm (fun i => trN K w p q (dgN K i)) (x + 1)))), (7, .long (lN 1)), (0, .ref (b 0)), (1, .int (nI w)), (2, .int (nI p)), (3, .int (nI q))]) C dX6_over_102 (by decide) rfl ?_
              refine xgoto C 10 dX6_over_104 (by decide) ?_
              refine xsub [3, 4, 5, 6, 1, 0] rfl ?_
              exact ih10 (x + 1) FC (by omega) hC hXC (by omega)
  refine xsub [2, 3, 4, 5, 1, 0] rfl ?_
  exact LP10 _ 0 FA (Nat.zero_le _) hA0 hXA (Nat.lt_succ_self _)
theorem dX6_many_0 : decode cX6_many 0 = .ok (.aload_n 0, 1) := by decide +kernel
theorem dX6_many_1 : decode cX6_many 1 = .ok (.invokevirtual 157, 3) := by decide +kernel
theorem dX6_many_4 : decode cX6_many 4 = .ok (.istore_n 1, 1) := by decide +kernel
theorem dX6_many_5 : decode cX6_many 5 = .ok (.iload_n 1, 1) := by decide +kernel
theorem dX6_many_6 : decode cX6_many 6 = .ok (.ifCond .ge 7, 3) := by decide +kernel
theorem dX6_many_9 : decode cX6_many 9 = .ok (.iload_n 1, 1) := by decide +kernel
theorem dX6_many_10 : decode cX6_many 10 = .ok (.goto 11, 3) := by decide +kernel
theorem dX6_many_13 : decode cX6_many 13 = .ok (.aload_n 0, 1) := by decide +kernel
theorem dX6_many_14 : decode cX6_many 14 = .ok (.iconst 0, 1) := by decide +kernel
theorem dX6_many_15 : decode cX6_many 15 = .ok (.iconst 0, 1) := by decide +kernel
theorem dX6_many_16 : decode cX6_many 16 = .ok (.iconst 0, 1) := by decide +kernel
theorem dX6_many_17 : decode cX6_many 17 = .ok (.invokevirtual 160, 3) := by decide +kernel
theorem dX6_many_20 : decode cX6_many 20 = .ok (.l2i, 1) := by decide +kernel
theorem dX6_many_21 : decode cX6_many 21 = .ok (.ireturn, 1) := by decide +kernel
def rX6_many : Room := { frames := 3, cells := 0, slots := 0, locals := 75 }
theorem yk_X6_many : YK yX6_many cX6_many 2 (some .int) 0 := ⟨xim_X6_many, xse_X6_many, xin_X6, xco_X6_many, by decide +kernel⟩
set_option maxRecDepth 4000 in
theorem c_X6_many {l : Launch} {D : va_G} {t : Nat → ClassId} {b : Nat → Nat} {I : Nat → Int32} {F : Nat → Nat → Int32} {K : Cfg} {sd : Int32} {hd : Nat → Nat} {dk : Bool} {dw : Nat → Nat} {mt : Int32} (hI : INV (K, sd, hd, dk, dw, mt)) (hX : RM (K, sd, hd, dk, dw, mt) I F)  : CT l D t yX6_many cX6_many 2 (some .int) rX6_many 0 0 [.ref (b 0)] (WM b t I F) (MO b t (opMany (K, sd, hd, dk, dw, mt))) := by
  refine CT.of (by decide +kernel) (by simp [lg_sl, Value.category]) (fun X C hR => ?_)
  refine xlocals (lv' := [(0, .ref (b 0))]) rfl ?_
  obtain ⟨hK, hsd, hHd, hdk, hdr⟩ := id hX
  have hW : WFK K := hI.1
  have hrg := hI.2.1
  have fn24 := hW.n24; have fm60 := hW.m60; have fk2 := hW.k2; have fu1 := hW.u1; have fu9 := hW.u9; have fv1 := hW.v1; have fv9 := hW.v9
  refine xaload_n C 0 rfl dX6_many_0 ?_
  refine xcVE C (c_X6_barsSmall hK hW) yk_X6_barsSmall 0 rfl rfl xml_X6_157 ⟨⟨Nat.le_of_ble_eq_true rfl, Nat.le_of_ble_eq_true rfl⟩, ⟨rfl, rfl⟩, ⟨Nat.zero_le _, Nat.zero_le _⟩⟩ rfl (Nat.le_of_ble_eq_true rfl) dX6_many_1 (fun vE wE hE => ?_)
  obtain ⟨FA, rfl, hXA, hor⟩ := hE
  have hKA : CFG K I FA := hK.of (fun _ _ => rfl) (fun q hq => hXA q (by omega))
  rcases hor with ⟨hg, rfl⟩ | ⟨hg, hsm, rfl⟩ | ⟨hg, hsm, rfl⟩
  ·
    refine xistore_n (lv' := [(1, .int (-5)), (0, .ref (b 0))]) C dX6_many_4 (by decide) rfl ?_
    refine xiload_n C 0 rfl dX6_many_5 ?_
    refine xif_ge C 13 dX6_many_6 (by decide) (fun h6 => ?_) (fun h6 => ?_)
    · exact absurd h6 (by decide +kernel)
    ·
      refine xiload_n C 0 rfl dX6_many_9 ?_
      refine xgoto C 21 dX6_many_10 (by decide) ?_
      exact xret C hR (rfl) dX6_many_21 (MO.mk (by rw [opMany, ci_t hg]) (hX.of (fun _ _ => rfl) (fun q h1 h2 h3 => hXA q h3)))
  ·
    refine xistore_n (lv' := [(1, .int (-4)), (0, .ref (b 0))]) C dX6_many_4 (by decide) rfl ?_
    refine xiload_n C 0 rfl dX6_many_5 ?_
    refine xif_ge C 13 dX6_many_6 (by decide) (fun h6 => ?_) (fun h6 => ?_)
    · exact absurd h6 (by decide +kernel)
    ·
      refine xiload_n C 0 rfl dX6_many_9 ?_
      refine xgoto C 21 dX6_many_10 (by decide) ?_
      exact xret C hR (rfl) dX6_many_21 (MO.mk (by rw [opMany, ci_f (fun q => q hg), ci_t hsm]) (hX.of (fun _ _ => rfl) (fun q h1 h2 h3 => hXA q h3)))
  ·
    refine xistore_n (lv' := [(1, .int (nI 0)), (0, .ref (b 0))]) C dX6_many_4 (by decide) rfl ?_
    refine xiload_n C 0 rfl dX6_many_5 ?_
    refine xif_geN C 13 dX6_many_6 (by decide) (by omega) ?_
    refine xaload_n C 1 rfl dX6_many_13 ?_
    refine xiconst (v := nI 0) C dX6_many_14 (by decide) ?_
    refine xiconst (v := nI 0) C dX6_many_15 (by decide) ?_
    refine xiconst (v := nI 0) C dX6_many_16 (by decide) ?_
    have hn : 0 < kn K := hg.1
    refine xcVE C (c_X6_over hKA hW 0 0 0 (by omega) (by omega) (by omega)) yk_X6_over 0 rfl rfl xml_X6_160 ⟨⟨Nat.le_of_ble_eq_true rfl, Nat.le_of_ble_eq_true rfl⟩, ⟨rfl, rfl⟩, ⟨Nat.zero_le _, Nat.zero_le _⟩⟩ rfl (Nat.le_of_ble_eq_true rfl) dX6_many_17 (fun vE wE hE => ?_)
    obtain ⟨rfl, FB, rfl, hFB⟩ := hE
    have hKFB : CFG K I FB := hKA.of (fun _ _ => rfl) (fun q hq => hFB q (by omega))
    refine xl2i C dX6_many_20 ?_
    refine xtopi (y := nI (suN K 0 0 0)) (lN_i _) ?_
    exact xret C hR (rfl) dX6_many_21 (MO.mk (by rw [opMany, ci_f (fun q => q hg), ci_f (fun q => q hsm)]) ((hX.of (fun _ _ => rfl) (fun q h1 h2 h3 => hXA q h3)).of (fun _ _ => rfl) (fun q h1 h2 h3 => hFB q h3)))
theorem dX6_all_0 : decode cX6_all 0 = .ok (.aload_n 0, 1) := by decide +kernel
theorem dX6_all_1 : decode cX6_all 1 = .ok (.invokevirtual 157, 3) := by decide +kernel
theorem dX6_all_4 : decode cX6_all 4 = .ok (.istore_n 1, 1) := by decide +kernel
theorem dX6_all_5 : decode cX6_all 5 = .ok (.iload_n 1, 1) := by decide +kernel
theorem dX6_all_6 : decode cX6_all 6 = .ok (.ifCond .ge 8, 3) := by decide +kernel
theorem dX6_all_9 : decode cX6_all 9 = .ok (.iload_n 1, 1) := by decide +kernel
theorem dX6_all_10 : decode cX6_all 10 = .ok (.i2l, 1) := by decide +kernel
theorem dX6_all_11 : decode cX6_all 11 = .ok (.goto 10, 3) := by decide +kernel
theorem dX6_all_14 : decode cX6_all 14 = .ok (.aload_n 0, 1) := by decide +kernel
theorem dX6_all_15 : decode cX6_all 15 = .ok (.iconst 1, 1) := by decide +kernel
theorem dX6_all_16 : decode cX6_all 16 = .ok (.iconst 0, 1) := by decide +kernel
theorem dX6_all_17 : decode cX6_all 17 = .ok (.iconst 0, 1) := by decide +kernel
theorem dX6_all_18 : decode cX6_all 18 = .ok (.invokevirtual 160, 3) := by decide +kernel
theorem dX6_all_21 : decode cX6_all 21 = .ok (.lreturn, 1) := by decide +kernel
def rX6_all : Room := { frames := 3, cells := 0, slots := 0, locals := 75 }
theorem yk_X6_all : YK yX6_all cX6_all 2 (some .long) 0 := ⟨xim_X6_all, xse_X6_all, xin_X6, xco_X6_all, by decide +kernel⟩
set_option maxRecDepth 4000 in
theorem c_X6_all {l : Launch} {D : va_G} {t : Nat → ClassId} {b : Nat → Nat} {I : Nat → Int32} {F : Nat → Nat → Int32} {K : Cfg} {sd : Int32} {hd : Nat → Nat} {dk : Bool} {dw : Nat → Nat} {mt : Int32} (hI : INV (K, sd, hd, dk, dw, mt)) (hX : RM (K, sd, hd, dk, dw, mt) I F)  : CT l D t yX6_all cX6_all 2 (some .long) rX6_all 0 0 [.ref (b 0)] (WM b t I F) (MO b t (opAll (K, sd, hd, dk, dw, mt))) := by
  refine CT.of (by decide +kernel) (by simp [lg_sl, Value.category]) (fun X C hR => ?_)
  refine xlocals (lv' := [(0, .ref (b 0))]) rfl ?_
  obtain ⟨hK, hsd, hHd, hdk, hdr⟩ := id hX
  have hW : WFK K := hI.1
  have hrg := hI.2.1
  have fn24 := hW.n24; have fm60 := hW.m60; have fk2 := hW.k2; have fu1 := hW.u1; have fu9 := hW.u9; have fv1 := hW.v1; have fv9 := hW.v9
  refine xaload_n C 0 rfl dX6_all_0 ?_
  refine xcVE C (c_X6_barsSmall hK hW) yk_X6_barsSmall 0 rfl rfl xml_X6_157 ⟨⟨Nat.le_of_ble_eq_true rfl, Nat.le_of_ble_eq_true rfl⟩, ⟨rfl, rfl⟩, ⟨Nat.zero_le _, Nat.zero_le _⟩⟩ rfl (Nat.le_of_ble_eq_true rfl) dX6_all_1 (fun vE wE hE => ?_)
  obtain ⟨FA, rfl, hXA, hor⟩ := hE
  have hKA : CFG K I FA := hK.of (fun _ _ => rfl) (fun q hq => hXA q (by omega))
  rcases hor with ⟨hg, rfl⟩ | ⟨hg, hsm, rfl⟩ | ⟨hg, hsm, rfl⟩
  ·
    refine xistore_n (lv' := [(1, .int (-5)), (0, .ref (b 0))]) C dX6_all_4 (by decide) rfl ?_
    refine xiload_n C 0 rfl dX6_all_5 ?_
    refine xif_ge C 14 dX6_all_6 (by decide) (fun h6 => ?_) (fun h6 => ?_)
    · exact absurd h6 (by decide +kernel)
    ·
      refine xiload_n C 0 rfl dX6_all_9 ?_
      refine xi2l C dX6_all_10 ?_
      refine xtopl (y := -5) (by decide +kernel) ?_
      refine xgoto C 21 dX6_all_11 (by decide) ?_
      exact xlret C hR dX6_all_21 (MO.mk (by rw [opAll, ci_t hg]) (hX.of (fun _ _ => rfl) (fun q h1 h2 h3 => hXA q h3)))
  ·
    refine xistore_n (lv' := [(1, .int (-4)), (0, .ref (b 0))]) C dX6_all_4 (by decide) rfl ?_
    refine xiload_n C 0 rfl dX6_all_5 ?_
    refine xif_ge C 14 dX6_all_6 (by decide) (fun h6 => ?_) (fun h6 => ?_)
    · exact absurd h6 (by decide +kernel)
    ·
      refine xiload_n C 0 rfl dX6_all_9 ?_
      refine xi2l C dX6_all_10 ?_
      refine xtopl (y := -4) (by decide +kernel) ?_
      refine xgoto C 21 dX6_all_11 (by decide) ?_
      exact xlret C hR dX6_all_21 (MO.mk (by rw [opAll, ci_f (fun q => q hg), ci_t hsm]) (hX.of (fun _ _ => rfl) (fun q h1 h2 h3 => hXA q h3)))
  ·
    refine xistore_n (lv' := [(1, .int (nI 0)), (0, .ref (b 0))]) C dX6_all_4 (by decide) rfl ?_
    refine xiload_n C 0 rfl dX6_all_5 ?_
    refine xif_geN C 14 dX6_all_6 (by decide) (by omega) ?_
    refine xaload_n C 1 rfl dX6_all_14 ?_
    refine xiconst (v := nI 1) C dX6_all_15 (by decide) ?_
    refine xiconst (v := nI 0) C dX6_all_16 (by decide) ?_
    refine xiconst (v := nI 0) C dX6_all_17 (by decide) ?_
    have hn : 0 < kn K := hg.1
    refine xcVE C (c_X6_over hKA hW 1 0 0 (by omega) (by omega) (by omega)) yk_X6_over 0 rfl rfl xml_X6_160 ⟨⟨Nat.le_of_ble_eq_true rfl, Nat.le_of_ble_eq_true rfl⟩, ⟨rfl, rfl⟩, ⟨Nat.zero_le _, Nat.zero_le _⟩⟩ rfl (Nat.le_of_ble_eq_true rfl) dX6_all_18 (fun vE wE hE => ?_)
    obtain ⟨rfl, FB, rfl, hFB⟩ := hE
    have hKFB : CFG K I FB := hKA.of (fun _ _ => rfl) (fun q hq => hFB q (by omega))
    exact xlret C hR dX6_all_21 (MO.mk (by rw [opAll, ci_f (fun q => q hg), ci_f (fun q => q hsm)]) ((hX.of (fun _ _ => rfl) (fun q h1 h2 h3 => hXA q h3)).of (fun _ _ => rfl) (fun q h1 h2 h3 => hFB q h3)))
theorem dX6_lowest__0 : decode cX6_lowest_ 0 = .ok (.lload_n 2, 1) := by decide +kernel
theorem dX6_lowest__1 : decode cX6_lowest_ 1 = .ok (.lstore 5, 2) := by decide +kernel
theorem dX6_lowest__3 : decode cX6_lowest_ 3 = .ok (.lload_n 0, 1) := by decide +kernel
theorem dX6_lowest__4 : decode cX6_lowest_ 4 = .ok (.lstore 7, 2) := by decide +kernel
theorem dX6_lowest__6 : decode cX6_lowest_ 6 = .ok (.lload 7, 2) := by decide +kernel
theorem dX6_lowest__8 : decode cX6_lowest_ 8 = .ok (.lconst 0, 1) := by decide +kernel
theorem dX6_lowest__9 : decode cX6_lowest_ 9 = .ok (.lcmp, 1) := by decide +kernel
theorem dX6_lowest__10 : decode cX6_lowest_ 10 = .ok (.ifCond .eq 21, 3) := by decide +kernel
theorem dX6_lowest__13 : decode cX6_lowest_ 13 = .ok (.lload 5, 2) := by decide +kernel
theorem dX6_lowest__15 : decode cX6_lowest_ 15 = .ok (.lload 7, 2) := by decide +kernel
theorem dX6_lowest__17 : decode cX6_lowest_ 17 = .ok (.lrem, 1) := by decide +kernel
theorem dX6_lowest__18 : decode cX6_lowest_ 18 = .ok (.lstore 9, 2) := by decide +kernel
theorem dX6_lowest__20 : decode cX6_lowest_ 20 = .ok (.lload 7, 2) := by decide +kernel
theorem dX6_lowest__22 : decode cX6_lowest_ 22 = .ok (.lstore 5, 2) := by decide +kernel
theorem dX6_lowest__24 : decode cX6_lowest_ 24 = .ok (.lload 9, 2) := by decide +kernel
theorem dX6_lowest__26 : decode cX6_lowest_ 26 = .ok (.lstore 7, 2) := by decide +kernel
theorem dX6_lowest__28 : decode cX6_lowest_ 28 = .ok (.goto (-22), 3) := by decide +kernel
theorem dX6_lowest__31 : decode cX6_lowest_ 31 = .ok (.iload 4, 2) := by decide +kernel
theorem dX6_lowest__33 : decode cX6_lowest_ 33 = .ok (.ifCond .ne 10, 3) := by decide +kernel
theorem dX6_lowest__36 : decode cX6_lowest_ 36 = .ok (.lload_n 0, 1) := by decide +kernel
theorem dX6_lowest__37 : decode cX6_lowest_ 37 = .ok (.lload 5, 2) := by decide +kernel
theorem dX6_lowest__39 : decode cX6_lowest_ 39 = .ok (.ldiv, 1) := by decide +kernel
theorem dX6_lowest__40 : decode cX6_lowest_ 40 = .ok (.goto 7, 3) := by decide +kernel
theorem dX6_lowest__43 : decode cX6_lowest_ 43 = .ok (.lload_n 2, 1) := by decide +kernel
theorem dX6_lowest__44 : decode cX6_lowest_ 44 = .ok (.lload 5, 2) := by decide +kernel
theorem dX6_lowest__46 : decode cX6_lowest_ 46 = .ok (.ldiv, 1) := by decide +kernel
theorem dX6_lowest__47 : decode cX6_lowest_ 47 = .ok (.lreturn, 1) := by decide +kernel
def rX6_lowest_ : Room := { frames := 0, cells := 0, slots := 0, locals := 0 }
theorem sk_X6_lowest_ : SK yX6_lowest_ cX6_lowest_ 11 (some .long) 3 := ⟨xst_X6_lowest_, xin_X6, xco_X6_lowest_, by decide +kernel⟩
set_option maxRecDepth 4000 in
theorem c_X6_lowest_ {l : Launch} {D : va_G} {t : Nat → ClassId} {b : Nat → Nat} {I : Nat → Int32} {F : Nat → Nat → Int32} (A B what : Nat) (hA : A < 2 ^ 62) (hB : B < 2 ^ 62) (hB0 : 0 < B) (hw : what ≤ 1) : CT l D t yX6_lowest_ cX6_lowest_ 11 (some .long) rX6_lowest_ 0 0 [.long (lN A), .long (lN B), .int (nI what)] (WM b t I F) (RP (.long (lN ((if what = 0 then A else B) / Nat.gcd A B))) (WM b t I F)) := by
  refine CT.of (by decide +kernel) (by simp [lg_sl, Value.category]) (fun X C hR => ?_)
  refine xlocals (lv' := [(0, .long (lN A)), (2, .long (lN B)), (4, .int (nI what))]) rfl ?_
  refine xlload_n C 1 rfl dX6_lowest__0 ?_
  refine xlstore (lv' := [(5, .long (lN B)), (0, .long (lN A)), (2, .long (lN B)), (4, .int (nI what))]) C dX6_lowest__1 (by decide) rfl ?_
  refine xlload_n C 1 rfl dX6_lowest__3 ?_
  refine xlstore (lv' := [(7, .long (lN A)), (5, .long (lN B)), (0, .long (lN A)), (2, .long (lN B)), (4, .int (nI what))]) C dX6_lowest__4 (by decide) rfl ?_
  have LP6 : ∀ (fu6 : Nat) (x : Nat) (y : Nat) (hg : Nat.gcd x y = Nat.gcd A B) (hxb : x < 2 ^ 62) (hyb : y < 2 ^ 62), y < fu6 → XW X 0 0 (WM b t I F) [(0, .long (lN A)), (2, .long (lN B)), (4, .int (nI what)), (5, .long (lN x)), (7, .long (lN y))] 6 [] := by
    intro fu6
    induction fu6 with
    | zero => intro x y hg hxb hyb hm6; exact absurd hm6 (Nat.not_lt_zero _)
    | succ fu6 ih6 =>
      intro x y hg hxb hyb hm6
      refine xlload C 4 rfl dX6_lowest__6 ?_
      refine xlconst (v := lN 0) C dX6_lowest__8 (by decide) ?_
      refine xlcmp_eq C 31 dX6_lowest__9 dX6_lowest__10 (by decide) (by omega) (by decide) (fun h9 => ?_) (fun h9 => ?_)
      ·
        have hxg : x = Nat.gcd A B := eu_end hg h9
        have hgp : 0 < Nat.gcd A B := Nat.gcd_pos_of_pos_right _ hB0
        refine xiload C 2 rfl dX6_lowest__31 ?_
        refine xif_neN C 43 dX6_lowest__33 (by decide) (by omega) (fun h33 => ?_) (fun h33 => ?_)
        ·
          refine xlload_n C 1 rfl dX6_lowest__43 ?_
          refine xlload C 3 rfl dX6_lowest__44 ?_
          refine xldiv C dX6_lowest__46 (fun e => absurd ((pk_lEQ (by omega) (by decide)).mp e) (show ¬ x = 0 by omega)) ?_
          refine xtopl (y := lN ((if what = 0 then A else B) / Nat.gcd A B)) (by rw [if_neg h33, hxg]; exact pk_lDiv (by omega) hgp (by omega)) ?_
          exact xlret C hR dX6_lowest__47 (RPl (rfl))
        ·
          refine xlload_n C 0 rfl dX6_lowest__36 ?_
          refine xlload C 3 rfl dX6_lowest__37 ?_
          refine xldiv C dX6_lowest__39 (fun e => absurd ((pk_lEQ (by omega) (by decide)).mp e) (show ¬ x = 0 by omega)) ?_
          refine xtopl (y := lN ((if what = 0 then A else B) / Nat.gcd A B)) (by rw [if_pos h33, hxg]; exact pk_lDiv (by omega) hgp (by omega)) ?_
          refine xgoto C 47 dX6_lowest__40 (by decide) ?_
          exact xlret C hR dX6_lowest__47 (RPl (rfl))
      ·
        have hml := Nat.mod_lt x (show 0 < y by omega)
        refine xlload C 3 rfl dX6_lowest__13 ?_
        refine xlload C 4 rfl dX6_lowest__15 ?_
        refine xlrem C dX6_lowest__17 (fun e => h9 ((pk_lEQ (by omega) (by decide)).mp e)) ?_
        refine xtopl (y := lN (x % y)) (pk_lRem (by omega) (by omega) (by omega)) ?_
        refine xlstore (lv' := [(9, .long (lN (x % y))), (0, .long (lN A)), (2, .long (lN B)), (4, .int (nI what)), (5, .long (lN x)), (7, .long (lN y))]) C dX6_lowest__18 (by decide) rfl ?_
        refine xlload C 5 rfl dX6_lowest__20 ?_
        refine xlstore (lv' := [(5, .long (lN y)), (9, .long (lN (x % y))), (0, .long (lN A)), (2, .long (lN B)), (4, .int (nI what)), (7, .long (lN y))]) C dX6_lowest__22 (by decide) rfl ?_
        refine xlload C 1 rfl dX6_lowest__24 ?_
        refine xlstore (lv' := [(7, .long (lN (x % y))), (5, .long (lN y)), (9, .long (lN (x % y))), (0, .long (lN A)), (2, .long (lN B)), (4, .int (nI what))]) C dX6_lowest__26 (by decide) rfl ?_
        refine xgoto C 6 dX6_lowest__28 (by decide) ?_
        refine xsub [3, 4, 5, 1, 0] rfl ?_
        exact ih6 y (x % y) (by rw [← hg, Nat.gcd_comm x y, Nat.gcd_rec y x, Nat.gcd_comm]) hyb (by omega) (by omega)
  refine xsub [2, 3, 4, 1, 0] rfl ?_
  exact LP6 _ B A (Nat.gcd_comm B A) hB hA (Nat.lt_succ_self _)
theorem dX6_chance_0 : decode cX6_chance 0 = .ok (.iload_n 1, 1) := by decide +kernel
theorem dX6_chance_1 : decode cX6_chance 1 = .ok (.iconst 0, 1) := by decide +kernel
theorem dX6_chance_2 : decode cX6_chance 2 = .ok (.iconst 1, 1) := by decide +kernel
theorem dX6_chance_3 : decode cX6_chance 3 = .ok (.invokestatic 56, 3) := by decide +kernel
theorem dX6_chance_6 : decode cX6_chance 6 = .ok (.ifCond .ne 7, 3) := by decide +kernel
theorem dX6_chance_9 : decode cX6_chance 9 = .ok (.ldc2_w 164, 3) := by decide +kernel
theorem dX6_chance_12 : decode cX6_chance 12 = .ok (.lreturn, 1) := by decide +kernel
theorem dX6_chance_13 : decode cX6_chance 13 = .ok (.aload_n 0, 1) := by decide +kernel
theorem dX6_chance_14 : decode cX6_chance 14 = .ok (.invokevirtual 157, 3) := by decide +kernel
theorem dX6_chance_17 : decode cX6_chance 17 = .ok (.istore_n 2, 1) := by decide +kernel
theorem dX6_chance_18 : decode cX6_chance 18 = .ok (.iload_n 2, 1) := by decide +kernel
theorem dX6_chance_19 : decode cX6_chance 19 = .ok (.ifCond .ge 8, 3) := by decide +kernel
theorem dX6_chance_22 : decode cX6_chance 22 = .ok (.iload_n 2, 1) := by decide +kernel
theorem dX6_chance_23 : decode cX6_chance 23 = .ok (.i2l, 1) := by decide +kernel
theorem dX6_chance_24 : decode cX6_chance 24 = .ok (.goto 22, 3) := by decide +kernel
theorem dX6_chance_27 : decode cX6_chance 27 = .ok (.aload_n 0, 1) := by decide +kernel
theorem dX6_chance_28 : decode cX6_chance 28 = .ok (.aload_n 0, 1) := by decide +kernel
theorem dX6_chance_29 : decode cX6_chance 29 = .ok (.getfield 38, 3) := by decide +kernel
theorem dX6_chance_32 : decode cX6_chance 32 = .ok (.invokevirtual 150, 3) := by decide +kernel
theorem dX6_chance_35 : decode cX6_chance 35 = .ok (.aload_n 0, 1) := by decide +kernel
theorem dX6_chance_36 : decode cX6_chance 36 = .ok (.iconst 1, 1) := by decide +kernel
theorem dX6_chance_37 : decode cX6_chance 37 = .ok (.iconst 0, 1) := by decide +kernel
theorem dX6_chance_38 : decode cX6_chance 38 = .ok (.iconst 0, 1) := by decide +kernel
theorem dX6_chance_39 : decode cX6_chance 39 = .ok (.invokevirtual 160, 3) := by decide +kernel
theorem dX6_chance_42 : decode cX6_chance 42 = .ok (.iload_n 1, 1) := by decide +kernel
theorem dX6_chance_43 : decode cX6_chance 43 = .ok (.invokestatic 166, 3) := by decide +kernel
theorem dX6_chance_46 : decode cX6_chance 46 = .ok (.lreturn, 1) := by decide +kernel
def rX6_chance : Room := { frames := 3, cells := 0, slots := 0, locals := 75 }
theorem yk_X6_chance : YK yX6_chance cX6_chance 3 (some .long) 1 := ⟨xim_X6_chance, xse_X6_chance, xin_X6, xco_X6_chance, by decide +kernel⟩
set_option maxRecDepth 4000 in
theorem c_X6_chance {l : Launch} {D : va_G} {t : Nat → ClassId} {b : Nat → Nat} {I : Nat → Int32} {F : Nat → Nat → Int32} {K : Cfg} {sd : Int32} {hd : Nat → Nat} {dk : Bool} {dw : Nat → Nat} {mt : Int32} (hI : INV (K, sd, hd, dk, dw, mt)) (hX : RM (K, sd, hd, dk, dw, mt) I F) (y : Int32) : CT l D t yX6_chance cX6_chance 3 (some .long) rX6_chance 0 0 [.ref (b 0), .int y] (WM b t I F) (MO b t (opChance (K, sd, hd, dk, dw, mt) y)) := by
  refine CT.of (by decide +kernel) (by simp [lg_sl, Value.category]) (fun X C hR => ?_)
  refine xlocals (lv' := [(0, .ref (b 0)), (1, .int y)]) rfl ?_
  obtain ⟨hK, hsd, hHd, hdk, hdr⟩ := id hX
  have hW : WFK K := hI.1
  have hrg := hI.2.1
  have fn24 := hW.n24; have fm60 := hW.m60; have fk2 := hW.k2; have fu1 := hW.u1; have fu9 := hW.u9; have fv1 := hW.v1; have fv9 := hW.v9
  refine xiload_n C 1 rfl dX6_chance_0 ?_
  refine xiconst (v := 0) C dX6_chance_1 (by decide) ?_
  refine xiconst (v := 1) C dX6_chance_2 (by decide) ?_
  refine xcSR C (c_X6_in y 0 1) sk_X6_in xml_X6_56 ⟨⟨Nat.le_of_ble_eq_true rfl, Nat.le_of_ble_eq_true rfl⟩, ⟨rfl, rfl⟩, ⟨Nat.zero_le _, Nat.zero_le _⟩⟩ rfl (Nat.le_of_ble_eq_true rfl) dX6_chance_3 ?_
  refine xif_neN C 13 dX6_chance_6 (by decide) (bn_lt _) (fun h6 => ?_) (fun h6 => ?_)
  ·
    have hin := bn_1 h6
    obtain ⟨w, hw1, rfl⟩ := box01 hin.1 hin.2
    refine xaload_n C 0 rfl dX6_chance_13 ?_
    refine xcVE C (c_X6_barsSmall hK hW) yk_X6_barsSmall 0 rfl rfl xml_X6_157 ⟨⟨Nat.le_of_ble_eq_true rfl, Nat.le_of_ble_eq_true rfl⟩, ⟨rfl, rfl⟩, ⟨Nat.zero_le _, Nat.zero_le _⟩⟩ rfl (Nat.le_of_ble_eq_true rfl) dX6_chance_14 (fun vE wE hE => ?_)
    obtain ⟨FA, rfl, hXA, hor⟩ := hE
    have hKA : CFG K I FA := hK.of (fun _ _ => rfl) (fun q hq => hXA q (by omega))
    rcases hor with ⟨hg, rfl⟩ | ⟨hg, hsm, rfl⟩ | ⟨hg, hsm, rfl⟩
    ·
      refine xistore_n (lv' := [(2, .int (-5)), (0, .ref (b 0)), (1, .int (nI w))]) C dX6_chance_17 (by decide) rfl ?_
      refine xiload_n C 0 rfl dX6_chance_18 ?_
      refine xif_ge C 27 dX6_chance_19 (by decide) (fun h19 => ?_) (fun h19 => ?_)
      · exact absurd h19 (by decide +kernel)
      ·
        refine xiload_n C 0 rfl dX6_chance_22 ?_
        refine xi2l C dX6_chance_23 ?_
        refine xtopl (y := -5) (by decide +kernel) ?_
        refine xgoto C 46 dX6_chance_24 (by decide) ?_
        exact xlret C hR dX6_chance_46 (MO.mk (by rw [opChance, ci_f (fun q => q.elim hin.1 hin.2), ci_t hg]) (hX.of (fun _ _ => rfl) (fun q h1 h2 h3 => hXA q h3)))
    ·
      refine xistore_n (lv' := [(2, .int (-4)), (0, .ref (b 0)), (1, .int (nI w))]) C dX6_chance_17 (by decide) rfl ?_
      refine xiload_n C 0 rfl dX6_chance_18 ?_
      refine xif_ge C 27 dX6_chance_19 (by decide) (fun h19 => ?_) (fun h19 => ?_)
      · exact absurd h19 (by decide +kernel)
      ·
        refine xiload_n C 0 rfl dX6_chance_22 ?_
        refine xi2l C dX6_chance_23 ?_
        refine xtopl (y := -4) (by decide +kernel) ?_
        refine xgoto C 46 dX6_chance_24 (by decide) ?_
        exact xlret C hR dX6_chance_46 (MO.mk (by rw [opChance, ci_f (fun q => q.elim hin.1 hin.2), ci_f (fun q => q hg), ci_t hsm]) (hX.of (fun _ _ => rfl) (fun q h1 h2 h3 => hXA q h3)))
    ·
      refine xistore_n (lv' := [(2, .int (nI 0)), (0, .ref (b 0)), (1, .int (nI w))]) C dX6_chance_17 (by decide) rfl ?_
      refine xiload_n C 0 rfl dX6_chance_18 ?_
      refine xif_geN C 27 dX6_chance_19 (by decide) (by omega) ?_
      refine xaload_n C 1 rfl dX6_chance_27 ?_
      refine xaload_n C 1 rfl dX6_chance_28 ?_
      refine gX6_38 C dX6_chance_29 ?_
      have hHA : RA (kn K) (FA 12) hd := by rw [hXA 12 (by decide)]; exact hHd
      refine xcVR C (c_X6_weight hKA hW 12 (by decide) (by decide) hHA (hI.2.2.1 hg)) yk_X6_weight 0 rfl rfl xml_X6_150 ⟨⟨Nat.le_of_ble_eq_true rfl, Nat.le_of_ble_eq_true rfl⟩, ⟨rfl, rfl⟩, ⟨Nat.zero_le _, Nat.zero_le _⟩⟩ rfl (Nat.le_of_ble_eq_true rfl) dX6_chance_32 ?_
      refine xaload_n C 1 rfl dX6_chance_35 ?_
      refine xiconst (v := nI 1) C dX6_chance_36 (by decide) ?_
      refine xiconst (v := nI 0) C dX6_chance_37 (by decide) ?_
      refine xiconst (v := nI 0) C dX6_chance_38 (by decide) ?_
      have hn : 0 < kn K := hg.1
      refine xcVE C (c_X6_over hKA hW 1 0 0 (by omega) (by omega) (by omega)) yk_X6_over 0 rfl rfl xml_X6_160 ⟨⟨Nat.le_of_ble_eq_true rfl, Nat.le_of_ble_eq_true rfl⟩, ⟨rfl, rfl⟩, ⟨Nat.zero_le _, Nat.zero_le _⟩⟩ rfl (Nat.le_of_ble_eq_true rfl) dX6_chance_39 (fun vE wE hE => ?_)
      obtain ⟨rfl, FB, rfl, hFB⟩ := hE
      have hKFB : CFG K I FB := hKA.of (fun _ _ => rfl) (fun q hq => hFB q (by omega))
      refine xiload_n C 2 rfl dX6_chance_42 ?_
      refine xcSR C (c_X6_lowest_ (woN K hd) (suN K 1 0 0) w (Nat.lt_of_le_of_lt (woN_le hW hsm hd) (by decide)) (suN_lt hW hsm 1 0 hn) (suN_pos hW hg (hI.2.2.1 hg)) (by omega)) sk_X6_lowest_ xml_X6_166 ⟨⟨Nat.le_of_ble_eq_true rfl, Nat.le_of_ble_eq_true rfl⟩, ⟨rfl, rfl⟩, ⟨Nat.zero_le _, Nat.zero_le _⟩⟩ rfl (Nat.le_of_ble_eq_true rfl) dX6_chance_43 ?_
      exact xlret C hR dX6_chance_46 (MO.mk (by rw [opChance, ci_f (fun q => q.elim hin.1 hin.2), ci_f (fun q => q hg), ci_f (fun q => q hsm), shN_nat hw1]) ((hX.of (fun _ _ => rfl) (fun q h1 h2 h3 => hXA q h3)).of (fun _ _ => rfl) (fun q h1 h2 h3 => hFB q h3)))
  ·
    refine xldc2 C dX6_chance_9 xcn_X6_164 ?_
    exact xlret C hR dX6_chance_12 (MO.mk (by rw [opChance, ci_t (nand (bn_0 h6))]) hX)
theorem dX6_mean_0 : decode cX6_mean 0 = .ok (.aload_n 0, 1) := by decide +kernel
theorem dX6_mean_1 : decode cX6_mean 1 = .ok (.iload_n 1, 1) := by decide +kernel
theorem dX6_mean_2 : decode cX6_mean 2 = .ok (.invokevirtual 75, 3) := by decide +kernel
theorem dX6_mean_5 : decode cX6_mean 5 = .ok (.ifCond .ne 7, 3) := by decide +kernel
theorem dX6_mean_8 : decode cX6_mean 8 = .ok (.ldc2_w 170, 3) := by decide +kernel
theorem dX6_mean_11 : decode cX6_mean 11 = .ok (.lreturn, 1) := by decide +kernel
theorem dX6_mean_12 : decode cX6_mean 12 = .ok (.iload_n 2, 1) := by decide +kernel
theorem dX6_mean_13 : decode cX6_mean 13 = .ok (.iconst 0, 1) := by decide +kernel
theorem dX6_mean_14 : decode cX6_mean 14 = .ok (.iconst 1, 1) := by decide +kernel
theorem dX6_mean_15 : decode cX6_mean 15 = .ok (.invokestatic 56, 3) := by decide +kernel
theorem dX6_mean_18 : decode cX6_mean 18 = .ok (.ifCond .ne 7, 3) := by decide +kernel
theorem dX6_mean_21 : decode cX6_mean 21 = .ok (.ldc2_w 164, 3) := by decide +kernel
theorem dX6_mean_24 : decode cX6_mean 24 = .ok (.lreturn, 1) := by decide +kernel
theorem dX6_mean_25 : decode cX6_mean 25 = .ok (.aload_n 0, 1) := by decide +kernel
theorem dX6_mean_26 : decode cX6_mean 26 = .ok (.invokevirtual 157, 3) := by decide +kernel
theorem dX6_mean_29 : decode cX6_mean 29 = .ok (.istore_n 3, 1) := by decide +kernel
theorem dX6_mean_30 : decode cX6_mean 30 = .ok (.iload_n 3, 1) := by decide +kernel
theorem dX6_mean_31 : decode cX6_mean 31 = .ok (.ifCond .ge 8, 3) := by decide +kernel
theorem dX6_mean_34 : decode cX6_mean 34 = .ok (.iload_n 3, 1) := by decide +kernel
theorem dX6_mean_35 : decode cX6_mean 35 = .ok (.i2l, 1) := by decide +kernel
theorem dX6_mean_36 : decode cX6_mean 36 = .ok (.goto 21, 3) := by decide +kernel
theorem dX6_mean_39 : decode cX6_mean 39 = .ok (.aload_n 0, 1) := by decide +kernel
theorem dX6_mean_40 : decode cX6_mean 40 = .ok (.iconst 2, 1) := by decide +kernel
theorem dX6_mean_41 : decode cX6_mean 41 = .ok (.iload_n 1, 1) := by decide +kernel
theorem dX6_mean_42 : decode cX6_mean 42 = .ok (.iload_n 1, 1) := by decide +kernel
theorem dX6_mean_43 : decode cX6_mean 43 = .ok (.invokevirtual 160, 3) := by decide +kernel
theorem dX6_mean_46 : decode cX6_mean 46 = .ok (.aload_n 0, 1) := by decide +kernel
theorem dX6_mean_47 : decode cX6_mean 47 = .ok (.iconst 1, 1) := by decide +kernel
theorem dX6_mean_48 : decode cX6_mean 48 = .ok (.iconst 0, 1) := by decide +kernel
theorem dX6_mean_49 : decode cX6_mean 49 = .ok (.iconst 0, 1) := by decide +kernel
theorem dX6_mean_50 : decode cX6_mean 50 = .ok (.invokevirtual 160, 3) := by decide +kernel
theorem dX6_mean_53 : decode cX6_mean 53 = .ok (.iload_n 2, 1) := by decide +kernel
theorem dX6_mean_54 : decode cX6_mean 54 = .ok (.invokestatic 166, 3) := by decide +kernel
theorem dX6_mean_57 : decode cX6_mean 57 = .ok (.lreturn, 1) := by decide +kernel
def rX6_mean : Room := { frames := 3, cells := 0, slots := 0, locals := 75 }
theorem yk_X6_mean : YK yX6_mean cX6_mean 4 (some .long) 2 := ⟨xim_X6_mean, xse_X6_mean, xin_X6, xco_X6_mean, by decide +kernel⟩
set_option maxRecDepth 4000 in
theorem c_X6_mean {l : Launch} {D : va_G} {t : Nat → ClassId} {b : Nat → Nat} {I : Nat → Int32} {F : Nat → Nat → Int32} {K : Cfg} {sd : Int32} {hd : Nat → Nat} {dk : Bool} {dw : Nat → Nat} {mt : Int32} (hI : INV (K, sd, hd, dk, dw, mt)) (hX : RM (K, sd, hd, dk, dw, mt) I F) (x y : Int32) : CT l D t yX6_mean cX6_mean 4 (some .long) rX6_mean 0 0 [.ref (b 0), .int x, .int y] (WM b t I F) (MO b t (opMean (K, sd, hd, dk, dw, mt) x y)) := by
  refine CT.of (by decide +kernel) (by simp [lg_sl, Value.category]) (fun X C hR => ?_)
  refine xlocals (lv' := [(0, .ref (b 0)), (1, .int x), (2, .int y)]) rfl ?_
  obtain ⟨hK, hsd, hHd, hdk, hdr⟩ := id hX
  have hW : WFK K := hI.1
  have hrg := hI.2.1
  have fn24 := hW.n24; have fm60 := hW.m60; have fk2 := hW.k2; have fu1 := hW.u1; have fu9 := hW.u9; have fv1 := hW.v1; have fv9 := hW.v9
  refine xaload_n C 0 rfl dX6_mean_0 ?_
  refine xiload_n C 1 rfl dX6_mean_1 ?_
  refine xcVR C (c_X6_isPlace hK hW x) yk_X6_isPlace 0 rfl rfl xml_X6_75 ⟨⟨Nat.le_of_ble_eq_true rfl, Nat.le_of_ble_eq_true rfl⟩, ⟨rfl, rfl⟩, ⟨Nat.zero_le _, Nat.zero_le _⟩⟩ rfl (Nat.le_of_ble_eq_true rfl) dX6_mean_2 ?_
  refine xif_neN C 12 dX6_mean_5 (by decide) (bn_lt _) (fun h5 => ?_) (fun h5 => ?_)
  ·
    obtain ⟨p, hp, rfl⟩ := (bn_1 h5).nat hW
    refine xiload_n C 2 rfl dX6_mean_12 ?_
    refine xiconst (v := 0) C dX6_mean_13 (by decide) ?_
    refine xiconst (v := 1) C dX6_mean_14 (by decide) ?_
    refine xcSR C (c_X6_in y 0 1) sk_X6_in xml_X6_56 ⟨⟨Nat.le_of_ble_eq_true rfl, Nat.le_of_ble_eq_true rfl⟩, ⟨rfl, rfl⟩, ⟨Nat.zero_le _, Nat.zero_le _⟩⟩ rfl (Nat.le_of_ble_eq_true rfl) dX6_mean_15 ?_
    refine xif_neN C 25 dX6_mean_18 (by decide) (bn_lt _) (fun h18 => ?_) (fun h18 => ?_)
    ·
      have hin := bn_1 h18
      obtain ⟨w, hw1, rfl⟩ := box01 hin.1 hin.2
      refine xaload_n C 0 rfl dX6_mean_25 ?_
      refine xcVE C (c_X6_barsSmall hK hW) yk_X6_barsSmall 0 rfl rfl xml_X6_157 ⟨⟨Nat.le_of_ble_eq_true rfl, Nat.le_of_ble_eq_true rfl⟩, ⟨rfl, rfl⟩, ⟨Nat.zero_le _, Nat.zero_le _⟩⟩ rfl (Nat.le_of_ble_eq_true rfl) dX6_mean_26 (fun vE wE hE => ?_)
      obtain ⟨FA, rfl, hXA, hor⟩ := hE
      have hKA : CFG K I FA := hK.of (fun _ _ => rfl) (fun q hq => hXA q (by omega))
      rcases hor with ⟨hg, rfl⟩ | ⟨hg, hsm, rfl⟩ | ⟨hg, hsm, rfl⟩
      ·
        refine xistore_n (lv' := [(3, .int (-5)), (0, .ref (b 0)), (1, .int (nI p)), (2, .int (nI w))]) C dX6_mean_29 (by decide) rfl ?_
        refine xiload_n C 0 rfl dX6_mean_30 ?_
        refine xif_ge C 39 dX6_mean_31 (by decide) (fun h31 => ?_) (fun h31 => ?_)
        · exact absurd h31 (by decide +kernel)
        ·
          refine xiload_n C 0 rfl dX6_mean_34 ?_
          refine xi2l C dX6_mean_35 ?_
          refine xtopl (y := -5) (by decide +kernel) ?_
          refine xgoto C 57 dX6_mean_36 (by decide) ?_
          exact xlret C hR dX6_mean_57 (MO.mk (by rw [opMean, ci_f (fun q => q (hasP_nat hW hp)), ci_f (fun q => q.elim hin.1 hin.2), ci_t hg]) (hX.of (fun _ _ => rfl) (fun q h1 h2 h3 => hXA q h3)))
      ·
        refine xistore_n (lv' := [(3, .int (-4)), (0, .ref (b 0)), (1, .int (nI p)), (2, .int (nI w))]) C dX6_mean_29 (by decide) rfl ?_
        refine xiload_n C 0 rfl dX6_mean_30 ?_
        refine xif_ge C 39 dX6_mean_31 (by decide) (fun h31 => ?_) (fun h31 => ?_)
        · exact absurd h31 (by decide +kernel)
        ·
          refine xiload_n C 0 rfl dX6_mean_34 ?_
          refine xi2l C dX6_mean_35 ?_
          refine xtopl (y := -4) (by decide +kernel) ?_
          refine xgoto C 57 dX6_mean_36 (by decide) ?_
          exact xlret C hR dX6_mean_57 (MO.mk (by rw [opMean, ci_f (fun q => q (hasP_nat hW hp)), ci_f (fun q => q.elim hin.1 hin.2), ci_f (fun q => q hg), ci_t hsm]) (hX.of (fun _ _ => rfl) (fun q h1 h2 h3 => hXA q h3)))
      ·
        refine xistore_n (lv' := [(3, .int (nI 0)), (0, .ref (b 0)), (1, .int (nI p)), (2, .int (nI w))]) C dX6_mean_29 (by decide) rfl ?_
        refine xiload_n C 0 rfl dX6_mean_30 ?_
        refine xif_geN C 39 dX6_mean_31 (by decide) (by omega) ?_
        refine xaload_n C 1 rfl dX6_mean_39 ?_
        refine xiconst (v := nI 2) C dX6_mean_40 (by decide) ?_
        refine xiload_n C 2 rfl dX6_mean_41 ?_
        refine xiload_n C 2 rfl dX6_mean_42 ?_
        have hn : 0 < kn K := hg.1
        refine xcVE C (c_X6_over hKA hW 2 p p (by omega) (by omega) (by omega)) yk_X6_over 0 rfl rfl xml_X6_160 ⟨⟨Nat.le_of_ble_eq_true rfl, Nat.le_of_ble_eq_true rfl⟩, ⟨rfl, rfl⟩, ⟨Nat.zero_le _, Nat.zero_le _⟩⟩ rfl (Nat.le_of_ble_eq_true rfl) dX6_mean_43 (fun vE wE hE => ?_)
        obtain ⟨rfl, FB, rfl, hFB⟩ := hE
        have hKFB : CFG K I FB := hKA.of (fun _ _ => rfl) (fun q hq => hFB q (by omega))
        refine xaload_n C 1 rfl dX6_mean_46 ?_
        refine xiconst (v := nI 1) C dX6_mean_47 (by decide) ?_
        refine xiconst (v := nI 0) C dX6_mean_48 (by decide) ?_
        refine xiconst (v := nI 0) C dX6_mean_49 (by decide) ?_
        refine xcVE C (c_X6_over hKFB hW 1 0 0 (by omega) (by omega) (by omega)) yk_X6_over 0 rfl rfl xml_X6_160 ⟨⟨Nat.le_of_ble_eq_true rfl, Nat.le_of_ble_eq_true rfl⟩, ⟨rfl, rfl⟩, ⟨Nat.zero_le _, Nat.zero_le _⟩⟩ rfl (Nat.le_of_ble_eq_true rfl) dX6_mean_50 (fun vE wE hE => ?_)
        obtain ⟨rfl, FC, rfl, hFC⟩ := hE
        have hKFC : CFG K I FC := hKFB.of (fun _ _ => rfl) (fun q hq => hFC q (by omega))
        refine xiload_n C 3 rfl dX6_mean_53 ?_
        refine xcSR C (c_X6_lowest_ (suN K 2 p p) (suN K 1 0 0) w (suN_lt hW hsm 2 p hp) (suN_lt hW hsm 1 0 hn) (suN_pos hW hg (hI.2.2.1 hg)) (by omega)) sk_X6_lowest_ xml_X6_166 ⟨⟨Nat.le_of_ble_eq_true rfl, Nat.le_of_ble_eq_true rfl⟩, ⟨rfl, rfl⟩, ⟨Nat.zero_le _, Nat.zero_le _⟩⟩ rfl (Nat.le_of_ble_eq_true rfl) dX6_mean_54 ?_
        exact xlret C hR dX6_mean_57 (MO.mk (by rw [opMean, ci_f (fun q => q (hasP_nat hW hp)), ci_f (fun q => q.elim hin.1 hin.2), ci_f (fun q => q hg), ci_f (fun q => q hsm), show cl (nI p) = p from nI_clamp (by omega), shN_nat hw1]) (((hX.of (fun _ _ => rfl) (fun q h1 h2 h3 => hXA q h3)).of (fun _ _ => rfl) (fun q h1 h2 h3 => hFB q h3)).of (fun _ _ => rfl) (fun q h1 h2 h3 => hFC q h3)))
    ·
      refine xldc2 C dX6_mean_21 xcn_X6_164 ?_
      exact xlret C hR dX6_mean_24 (MO.mk (by rw [opMean, ci_f (fun q => q (hasP_nat hW hp)), ci_t (nand (bn_0 h18))]) hX)
  ·
    have h5 := bn_0 h5
    refine xldc2 C dX6_mean_8 xcn_X6_170 ?_
    exact xlret C hR dX6_mean_11 (MO.mk (by rw [opMean, ci_t h5]) hX)
theorem dX6_alike_0 : decode cX6_alike 0 = .ok (.aload_n 0, 1) := by decide +kernel
theorem dX6_alike_1 : decode cX6_alike 1 = .ok (.iload_n 1, 1) := by decide +kernel
theorem dX6_alike_2 : decode cX6_alike 2 = .ok (.invokevirtual 75, 3) := by decide +kernel
theorem dX6_alike_5 : decode cX6_alike 5 = .ok (.ifCond .eq 11, 3) := by decide +kernel
theorem dX6_alike_8 : decode cX6_alike 8 = .ok (.aload_n 0, 1) := by decide +kernel
theorem dX6_alike_9 : decode cX6_alike 9 = .ok (.iload_n 2, 1) := by decide +kernel
theorem dX6_alike_10 : decode cX6_alike 10 = .ok (.invokevirtual 75, 3) := by decide +kernel
theorem dX6_alike_13 : decode cX6_alike 13 = .ok (.ifCond .ne 7, 3) := by decide +kernel
theorem dX6_alike_16 : decode cX6_alike 16 = .ok (.ldc2_w 170, 3) := by decide +kernel
theorem dX6_alike_19 : decode cX6_alike 19 = .ok (.lreturn, 1) := by decide +kernel
theorem dX6_alike_20 : decode cX6_alike 20 = .ok (.iload_n 3, 1) := by decide +kernel
theorem dX6_alike_21 : decode cX6_alike 21 = .ok (.iconst 0, 1) := by decide +kernel
theorem dX6_alike_22 : decode cX6_alike 22 = .ok (.iconst 1, 1) := by decide +kernel
theorem dX6_alike_23 : decode cX6_alike 23 = .ok (.invokestatic 56, 3) := by decide +kernel
theorem dX6_alike_26 : decode cX6_alike 26 = .ok (.ifCond .ne 7, 3) := by decide +kernel
theorem dX6_alike_29 : decode cX6_alike 29 = .ok (.ldc2_w 164, 3) := by decide +kernel
theorem dX6_alike_32 : decode cX6_alike 32 = .ok (.lreturn, 1) := by decide +kernel
theorem dX6_alike_33 : decode cX6_alike 33 = .ok (.aload_n 0, 1) := by decide +kernel
theorem dX6_alike_34 : decode cX6_alike 34 = .ok (.invokevirtual 157, 3) := by decide +kernel
theorem dX6_alike_37 : decode cX6_alike 37 = .ok (.istore 4, 2) := by decide +kernel
theorem dX6_alike_39 : decode cX6_alike 39 = .ok (.iload 4, 2) := by decide +kernel
theorem dX6_alike_41 : decode cX6_alike 41 = .ok (.ifCond .ge 9, 3) := by decide +kernel
theorem dX6_alike_44 : decode cX6_alike 44 = .ok (.iload 4, 2) := by decide +kernel
theorem dX6_alike_46 : decode cX6_alike 46 = .ok (.i2l, 1) := by decide +kernel
theorem dX6_alike_47 : decode cX6_alike 47 = .ok (.goto 21, 3) := by decide +kernel
theorem dX6_alike_50 : decode cX6_alike 50 = .ok (.aload_n 0, 1) := by decide +kernel
theorem dX6_alike_51 : decode cX6_alike 51 = .ok (.iconst 3, 1) := by decide +kernel
theorem dX6_alike_52 : decode cX6_alike 52 = .ok (.iload_n 1, 1) := by decide +kernel
theorem dX6_alike_53 : decode cX6_alike 53 = .ok (.iload_n 2, 1) := by decide +kernel
theorem dX6_alike_54 : decode cX6_alike 54 = .ok (.invokevirtual 160, 3) := by decide +kernel
theorem dX6_alike_57 : decode cX6_alike 57 = .ok (.aload_n 0, 1) := by decide +kernel
theorem dX6_alike_58 : decode cX6_alike 58 = .ok (.iconst 1, 1) := by decide +kernel
theorem dX6_alike_59 : decode cX6_alike 59 = .ok (.iconst 0, 1) := by decide +kernel
theorem dX6_alike_60 : decode cX6_alike 60 = .ok (.iconst 0, 1) := by decide +kernel
theorem dX6_alike_61 : decode cX6_alike 61 = .ok (.invokevirtual 160, 3) := by decide +kernel
theorem dX6_alike_64 : decode cX6_alike 64 = .ok (.iload_n 3, 1) := by decide +kernel
theorem dX6_alike_65 : decode cX6_alike 65 = .ok (.invokestatic 166, 3) := by decide +kernel
theorem dX6_alike_68 : decode cX6_alike 68 = .ok (.lreturn, 1) := by decide +kernel
def rX6_alike : Room := { frames := 3, cells := 0, slots := 0, locals := 75 }
theorem yk_X6_alike : YK yX6_alike cX6_alike 5 (some .long) 3 := ⟨xim_X6_alike, xse_X6_alike, xin_X6, xco_X6_alike, by decide +kernel⟩
set_option maxRecDepth 4000 in
theorem c_X6_alike {l : Launch} {D : va_G} {t : Nat → ClassId} {b : Nat → Nat} {I : Nat → Int32} {F : Nat → Nat → Int32} {K : Cfg} {sd : Int32} {hd : Nat → Nat} {dk : Bool} {dw : Nat → Nat} {mt : Int32} (hI : INV (K, sd, hd, dk, dw, mt)) (hX : RM (K, sd, hd, dk, dw, mt) I F) (x z y : Int32) : CT l D t yX6_alike cX6_alike 5 (some .long) rX6_alike 0 0 [.ref (b 0), .int x, .int z, .int y] (WM b t I F) (MO b t (opAlike (K, sd, hd, dk, dw, mt) x z y)) := by
  refine CT.of (by decide +kernel) (by simp [lg_sl, Value.category]) (fun X C hR => ?_)
  refine xlocals (lv' := [(0, .ref (b 0)), (1, .int x), (2, .int z), (3, .int y)]) rfl ?_
  obtain ⟨hK, hsd, hHd, hdk, hdr⟩ := id hX
  have hW : WFK K := hI.1
  have hrg := hI.2.1
  have fn24 := hW.n24; have fm60 := hW.m60; have fk2 := hW.k2; have fu1 := hW.u1; have fu9 := hW.u9; have fv1 := hW.v1; have fv9 := hW.v9
  refine xaload_n C 0 rfl dX6_alike_0 ?_
  refine xiload_n C 1 rfl dX6_alike_1 ?_
  refine xcVR C (c_X6_isPlace hK hW x) yk_X6_isPlace 0 rfl rfl xml_X6_75 ⟨⟨Nat.le_of_ble_eq_true rfl, Nat.le_of_ble_eq_true rfl⟩, ⟨rfl, rfl⟩, ⟨Nat.zero_le _, Nat.zero_le _⟩⟩ rfl (Nat.le_of_ble_eq_true rfl) dX6_alike_2 ?_
  refine xif_eqN C 16 dX6_alike_5 (by decide) (bn_lt _) (fun h5 => ?_) (fun h5 => ?_)
  ·
    have h5 := bn_0 h5
    refine xldc2 C dX6_alike_16 xcn_X6_170 ?_
    exact xlret C hR dX6_alike_19 (MO.mk (by rw [opAlike, ci_t (Or.inl h5)]) hX)
  ·
    obtain ⟨p, hp, rfl⟩ := (bn_1 h5).nat hW
    refine xaload_n C 0 rfl dX6_alike_8 ?_
    refine xiload_n C 2 rfl dX6_alike_9 ?_
    refine xcVR C (c_X6_isPlace hK hW z) yk_X6_isPlace 0 rfl rfl xml_X6_75 ⟨⟨Nat.le_of_ble_eq_true rfl, Nat.le_of_ble_eq_true rfl⟩, ⟨rfl, rfl⟩, ⟨Nat.zero_le _, Nat.zero_le _⟩⟩ rfl (Nat.le_of_ble_eq_true rfl) dX6_alike_10 ?_
    refine xif_neN C 20 dX6_alike_13 (by decide) (bn_lt _) (fun h13 => ?_) (fun h13 => ?_)
    ·
      obtain ⟨q, hq, rfl⟩ := (bn_1 h13).nat hW
      refine xiload_n C 3 rfl dX6_alike_20 ?_
      refine xiconst (v := 0) C dX6_alike_21 (by decide) ?_
      refine xiconst (v := 1) C dX6_alike_22 (by decide) ?_
      refine xcSR C (c_X6_in y 0 1) sk_X6_in xml_X6_56 ⟨⟨Nat.le_of_ble_eq_true rfl, Nat.le_of_ble_eq_true rfl⟩, ⟨rfl, rfl⟩, ⟨Nat.zero_le _, Nat.zero_le _⟩⟩ rfl (Nat.le_of_ble_eq_true rfl) dX6_alike_23 ?_
      refine xif_neN C 33 dX6_alike_26 (by decide) (bn_lt _) (fun h26 => ?_) (fun h26 => ?_)
      ·
        have hin := bn_1 h26
        obtain ⟨w, hw1, rfl⟩ := box01 hin.1 hin.2
        refine xaload_n C 0 rfl dX6_alike_33 ?_
        refine xcVE C (c_X6_barsSmall hK hW) yk_X6_barsSmall 0 rfl rfl xml_X6_157 ⟨⟨Nat.le_of_ble_eq_true rfl, Nat.le_of_ble_eq_true rfl⟩, ⟨rfl, rfl⟩, ⟨Nat.zero_le _, Nat.zero_le _⟩⟩ rfl (Nat.le_of_ble_eq_true rfl) dX6_alike_34 (fun vE wE hE => ?_)
        obtain ⟨FA, rfl, hXA, hor⟩ := hE
        have hKA : CFG K I FA := hK.of (fun _ _ => rfl) (fun q hq => hXA q (by omega))
        rcases hor with ⟨hg, rfl⟩ | ⟨hg, hsm, rfl⟩ | ⟨hg, hsm, rfl⟩
        ·
          refine xistore (lv' := [(4, .int (-5)), (0, .ref (b 0)), (1, .int (nI p)), (2, .int (nI q)), (3, .int (nI w))]) C dX6_alike_37 (by decide) rfl ?_
          refine xiload C 0 rfl dX6_alike_39 ?_
          refine xif_ge C 50 dX6_alike_41 (by decide) (fun h41 => ?_) (fun h41 => ?_)
          · exact absurd h41 (by decide +kernel)
          ·
            refine xiload C 0 rfl dX6_alike_44 ?_
            refine xi2l C dX6_alike_46 ?_
            refine xtopl (y := -5) (by decide +kernel) ?_
            refine xgoto C 68 dX6_alike_47 (by decide) ?_
            exact xlret C hR dX6_alike_68 (MO.mk (by rw [opAlike, ci_f (fun q => q.elim (fun q => q (hasP_nat hW hp)) (fun q => q (hasP_nat hW hq))), ci_f (fun q => q.elim hin.1 hin.2), ci_t hg]) (hX.of (fun _ _ => rfl) (fun q h1 h2 h3 => hXA q h3)))
        ·
          refine xistore (lv' := [(4, .int (-4)), (0, .ref (b 0)), (1, .int (nI p)), (2, .int (nI q)), (3, .int (nI w))]) C dX6_alike_37 (by decide) rfl ?_
          refine xiload C 0 rfl dX6_alike_39 ?_
          refine xif_ge C 50 dX6_alike_41 (by decide) (fun h41 => ?_) (fun h41 => ?_)
          · exact absurd h41 (by decide +kernel)
          ·
            refine xiload C 0 rfl dX6_alike_44 ?_
            refine xi2l C dX6_alike_46 ?_
            refine xtopl (y := -4) (by decide +kernel) ?_
            refine xgoto C 68 dX6_alike_47 (by decide) ?_
            exact xlret C hR dX6_alike_68 (MO.mk (by rw [opAlike, ci_f (fun q => q.elim (fun q => q (hasP_nat hW hp)) (fun q => q (hasP_nat hW hq))), ci_f (fun q => q.elim hin.1 hin.2), ci_f (fun q => q hg), ci_t hsm]) (hX.of (fun _ _ => rfl) (fun q h1 h2 h3 => hXA q h3)))
        ·
          refine xistore (lv' := [(4, .int (nI 0)), (0, .ref (b 0)), (1, .int (nI p)), (2, .int (nI q)), (3, .int (nI w))]) C dX6_alike_37 (by decide) rfl ?_
          refine xiload C 0 rfl dX6_alike_39 ?_
          refine xif_geN C 50 dX6_alike_41 (by decide) (by omega) ?_
          refine xaload_n C 1 rfl dX6_alike_50 ?_
          refine xiconst (v := nI 3) C dX6_alike_51 (by decide) ?_
          refine xiload_n C 2 rfl dX6_alike_52 ?_
          refine xiload_n C 3 rfl dX6_alike_53 ?_
          have hn : 0 < kn K := hg.1
          refine xcVE C (c_X6_over hKA hW 3 p q (by omega) (by omega) (by omega)) yk_X6_over 0 rfl rfl xml_X6_160 ⟨⟨Nat.le_of_ble_eq_true rfl, Nat.le_of_ble_eq_true rfl⟩, ⟨rfl, rfl⟩, ⟨Nat.zero_le _, Nat.zero_le _⟩⟩ rfl (Nat.le_of_ble_eq_true rfl) dX6_alike_54 (fun vE wE hE => ?_)
          obtain ⟨rfl, FB, rfl, hFB⟩ := hE
          have hKFB : CFG K I FB := hKA.of (fun _ _ => rfl) (fun q hq => hFB q (by omega))
          refine xaload_n C 1 rfl dX6_alike_57 ?_
          refine xiconst (v := nI 1) C dX6_alike_58 (by decide) ?_
          refine xiconst (v := nI 0) C dX6_alike_59 (by decide) ?_
          refine xiconst (v := nI 0) C dX6_alike_60 (by decide) ?_
          refine xcVE C (c_X6_over hKFB hW 1 0 0 (by omega) (by omega) (by omega)) yk_X6_over 0 rfl rfl xml_X6_160 ⟨⟨Nat.le_of_ble_eq_true rfl, Nat.le_of_ble_eq_true rfl⟩, ⟨rfl, rfl⟩, ⟨Nat.zero_le _, Nat.zero_le _⟩⟩ rfl (Nat.le_of_ble_eq_true rfl) dX6_alike_61 (fun vE wE hE => ?_)
          obtain ⟨rfl, FC, rfl, hFC⟩ := hE
          have hKFC : CFG K I FC := hKFB.of (fun _ _ => rfl) (fun q hq => hFC q (by omega))
          refine xiload_n C 4 rfl dX6_alike_64 ?_
          refine xcSR C (c_X6_lowest_ (suN K 3 p q) (suN K 1 0 0) w (suN_lt hW hsm 3 q hp) (suN_lt hW hsm 1 0 hn) (suN_pos hW hg (hI.2.2.1 hg)) (by omega)) sk_X6_lowest_ xml_X6_166 ⟨⟨Nat.le_of_ble_eq_true rfl, Nat.le_of_ble_eq_true rfl⟩, ⟨rfl, rfl⟩, ⟨Nat.zero_le _, Nat.zero_le _⟩⟩ rfl (Nat.le_of_ble_eq_true rfl) dX6_alike_65 ?_
          exact xlret C hR dX6_alike_68 (MO.mk (by rw [opAlike, ci_f (fun q => q.elim (fun q => q (hasP_nat hW hp)) (fun q => q (hasP_nat hW hq))), ci_f (fun q => q.elim hin.1 hin.2), ci_f (fun q => q hg), ci_f (fun q => q hsm), show cl (nI p) = p from nI_clamp (by omega), show cl (nI q) = q from nI_clamp (by omega), shN_nat hw1]) (((hX.of (fun _ _ => rfl) (fun q h1 h2 h3 => hXA q h3)).of (fun _ _ => rfl) (fun q h1 h2 h3 => hFB q h3)).of (fun _ _ => rfl) (fun q h1 h2 h3 => hFC q h3)))
      ·
        refine xldc2 C dX6_alike_29 xcn_X6_164 ?_
        exact xlret C hR dX6_alike_32 (MO.mk (by rw [opAlike, ci_f (fun q => q.elim (fun q => q (hasP_nat hW hp)) (fun q => q (hasP_nat hW hq))), ci_t (nand (bn_0 h26))]) hX)
    ·
      have h13 := bn_0 h13
      refine xldc2 C dX6_alike_16 xcn_X6_170 ?_
      exact xlret C hR dX6_alike_19 (MO.mk (by rw [opAlike, ci_t (Or.inr h13)]) hX)
theorem dX6_told_0 : decode cX6_told 0 = .ok (.iload_n 1, 1) := by decide +kernel
theorem dX6_told_1 : decode cX6_told 1 = .ok (.tableswitch 143 0 7 #[47, 52, 57, 62, 67, 72, 77, 90], 47) := by decide +kernel
theorem dX6_told_48 : decode cX6_told 48 = .ok (.aload_n 0, 1) := by decide +kernel
theorem dX6_told_49 : decode cX6_told 49 = .ok (.getfield 53, 3) := by decide +kernel
theorem dX6_told_52 : decode cX6_told 52 = .ok (.ireturn, 1) := by decide +kernel
theorem dX6_told_53 : decode cX6_told 53 = .ok (.aload_n 0, 1) := by decide +kernel
theorem dX6_told_54 : decode cX6_told 54 = .ok (.getfield 79, 3) := by decide +kernel
theorem dX6_told_57 : decode cX6_told 57 = .ok (.ireturn, 1) := by decide +kernel
theorem dX6_told_58 : decode cX6_told 58 = .ok (.aload_n 0, 1) := by decide +kernel
theorem dX6_told_59 : decode cX6_told 59 = .ok (.getfield 90, 3) := by decide +kernel
theorem dX6_told_62 : decode cX6_told 62 = .ok (.ireturn, 1) := by decide +kernel
theorem dX6_told_63 : decode cX6_told 63 = .ok (.aload_n 0, 1) := by decide +kernel
theorem dX6_told_64 : decode cX6_told 64 = .ok (.getfield 31, 3) := by decide +kernel
theorem dX6_told_67 : decode cX6_told 67 = .ok (.ireturn, 1) := by decide +kernel
theorem dX6_told_68 : decode cX6_told 68 = .ok (.aload_n 0, 1) := by decide +kernel
theorem dX6_told_69 : decode cX6_told 69 = .ok (.getfield 35, 3) := by decide +kernel
theorem dX6_told_72 : decode cX6_told 72 = .ok (.ireturn, 1) := by decide +kernel
theorem dX6_told_73 : decode cX6_told 73 = .ok (.aload_n 0, 1) := by decide +kernel
theorem dX6_told_74 : decode cX6_told 74 = .ok (.getfield 104, 3) := by decide +kernel
theorem dX6_told_77 : decode cX6_told 77 = .ok (.ireturn, 1) := by decide +kernel
theorem dX6_told_78 : decode cX6_told 78 = .ok (.aload_n 0, 1) := by decide +kernel
theorem dX6_told_79 : decode cX6_told 79 = .ok (.getfield 60, 3) := by decide +kernel
theorem dX6_told_82 : decode cX6_told 82 = .ok (.ifCond .eq 7, 3) := by decide +kernel
theorem dX6_told_85 : decode cX6_told 85 = .ok (.iconst 1, 1) := by decide +kernel
theorem dX6_told_86 : decode cX6_told 86 = .ok (.goto 4, 3) := by decide +kernel
theorem dX6_told_89 : decode cX6_told 89 = .ok (.iconst 0, 1) := by decide +kernel
theorem dX6_told_90 : decode cX6_told 90 = .ok (.ireturn, 1) := by decide +kernel
theorem dX6_told_91 : decode cX6_told 91 = .ok (.iconst 0, 1) := by decide +kernel
theorem dX6_told_92 : decode cX6_told 92 = .ok (.istore_n 2, 1) := by decide +kernel
theorem dX6_told_93 : decode cX6_told 93 = .ok (.iconst 0, 1) := by decide +kernel
theorem dX6_told_94 : decode cX6_told 94 = .ok (.istore_n 3, 1) := by decide +kernel
theorem dX6_told_95 : decode cX6_told 95 = .ok (.iload_n 3, 1) := by decide +kernel
theorem dX6_told_96 : decode cX6_told 96 = .ok (.aload_n 0, 1) := by decide +kernel
theorem dX6_told_97 : decode cX6_told 97 = .ok (.getfield 79, 3) := by decide +kernel
theorem dX6_told_100 : decode cX6_told 100 = .ok (.if_icmp .ge 42, 3) := by decide +kernel
theorem dX6_told_103 : decode cX6_told 103 = .ok (.iload_n 2, 1) := by decide +kernel
theorem dX6_told_104 : decode cX6_told 104 = .ok (.aload_n 0, 1) := by decide +kernel
theorem dX6_told_105 : decode cX6_told 105 = .ok (.getfield 38, 3) := by decide +kernel
theorem dX6_told_108 : decode cX6_told 108 = .ok (.aload_n 0, 1) := by decide +kernel
theorem dX6_told_109 : decode cX6_told 109 = .ok (.getfield 25, 3) := by decide +kernel
theorem dX6_told_112 : decode cX6_told 112 = .ok (.iload_n 3, 1) := by decide +kernel
theorem dX6_told_113 : decode cX6_told 113 = .ok (.iaload, 1) := by decide +kernel
theorem dX6_told_114 : decode cX6_told 114 = .ok (.iaload, 1) := by decide +kernel
theorem dX6_told_115 : decode cX6_told 115 = .ok (.aload_n 0, 1) := by decide +kernel
theorem dX6_told_116 : decode cX6_told 116 = .ok (.getfield 38, 3) := by decide +kernel
theorem dX6_told_119 : decode cX6_told 119 = .ok (.aload_n 0, 1) := by decide +kernel
theorem dX6_told_120 : decode cX6_told 120 = .ok (.getfield 28, 3) := by decide +kernel
theorem dX6_told_123 : decode cX6_told 123 = .ok (.iload_n 3, 1) := by decide +kernel
theorem dX6_told_124 : decode cX6_told 124 = .ok (.iaload, 1) := by decide +kernel
theorem dX6_told_125 : decode cX6_told 125 = .ok (.iaload, 1) := by decide +kernel
theorem dX6_told_126 : decode cX6_told 126 = .ok (.if_icmp .ne 7, 3) := by decide +kernel
theorem dX6_told_129 : decode cX6_told 129 = .ok (.iconst 1, 1) := by decide +kernel
theorem dX6_told_130 : decode cX6_told 130 = .ok (.goto 4, 3) := by decide +kernel
theorem dX6_told_133 : decode cX6_told 133 = .ok (.iconst 0, 1) := by decide +kernel
theorem dX6_told_134 : decode cX6_told 134 = .ok (.iadd, 1) := by decide +kernel
theorem dX6_told_135 : decode cX6_told 135 = .ok (.istore_n 2, 1) := by decide +kernel
theorem dX6_told_136 : decode cX6_told 136 = .ok (.iinc 3 1, 3) := by decide +kernel
theorem dX6_told_139 : decode cX6_told 139 = .ok (.goto (-44), 3) := by decide +kernel
theorem dX6_told_142 : decode cX6_told 142 = .ok (.iload_n 2, 1) := by decide +kernel
theorem dX6_told_143 : decode cX6_told 143 = .ok (.ireturn, 1) := by decide +kernel
theorem dX6_told_144 : decode cX6_told 144 = .ok (.ldc 172, 2) := by decide +kernel
theorem dX6_told_146 : decode cX6_told 146 = .ok (.ireturn, 1) := by decide +kernel
def rX6_told : Room := { frames := 0, cells := 0, slots := 0, locals := 0 }
theorem yk_X6_told : YK yX6_told cX6_told 4 (some .int) 1 := ⟨xim_X6_told, xse_X6_told, xin_X6, xco_X6_told, by decide +kernel⟩
set_option maxRecDepth 4000 in
theorem c_X6_told {l : Launch} {D : va_G} {t : Nat → ClassId} {b : Nat → Nat} {I : Nat → Int32} {F : Nat → Nat → Int32} {K : Cfg} {sd : Int32} {hd : Nat → Nat} {dk : Bool} {dw : Nat → Nat} {mt : Int32} (hI : INV (K, sd, hd, dk, dw, mt)) (hX : RM (K, sd, hd, dk, dw, mt) I F) (x : Int32) : CT l D t yX6_told cX6_told 4 (some .int) rX6_told 0 0 [.ref (b 0), .int x] (WM b t I F) (MO b t (opTold (K, sd, hd, dk, dw, mt) x)) := by
  refine CT.of (by decide +kernel) (by simp [lg_sl, Value.category]) (fun X C hR => ?_)
  refine xlocals (lv' := [(0, .ref (b 0)), (1, .int x)]) rfl ?_
  obtain ⟨hK, hsd, hHd, hdk, hdr⟩ := id hX
  have hW : WFK K := hI.1
  have hrg := hI.2.1
  have fn24 := hW.n24; have fm60 := hW.m60; have fk2 := hW.k2; have fu1 := hW.u1; have fu9 := hW.u9; have fv1 := hW.v1; have fv9 := hW.v9
  refine xiload_n C 1 rfl dX6_told_0 ?_
  rcases sw07 x with h1 | h1 | h1 | h1 | h1 | h1 | h1 | h1 | h1
  ·
    subst h1
    refine xtabIn C 48 dX6_told_1 (off := 47) (by decide +kernel) (by decide +kernel) (by decide +kernel) (by decide) ?_
    refine xaload_n C 0 rfl dX6_told_48 ?_
    refine gX6_53K C hK dX6_told_49 ?_
    exact xret C hR (rfl) dX6_told_52 (MO.mk (by rw [opTold, ci_t rfl]) hX)
  ·
    subst h1
    refine xtabIn C 53 dX6_told_1 (off := 52) (by decide +kernel) (by decide +kernel) (by decide +kernel) (by decide) ?_
    refine xaload_n C 0 rfl dX6_told_53 ?_
    refine gX6_79K C hK dX6_told_54 ?_
    exact xret C hR (rfl) dX6_told_57 (MO.mk (by rw [opTold, ci_f (by decide +kernel), ci_t rfl]) hX)
  ·
    subst h1
    refine xtabIn C 58 dX6_told_1 (off := 57) (by decide +kernel) (by decide +kernel) (by decide +kernel) (by decide) ?_
    refine xaload_n C 0 rfl dX6_told_58 ?_
    refine gX6_90K C hK dX6_told_59 ?_
    exact xret C hR (rfl) dX6_told_62 (MO.mk (by rw [opTold, ci_f (by decide +kernel), ci_f (by decide +kernel), ci_t rfl]) hX)
  ·
    subst h1
    refine xtabIn C 63 dX6_told_1 (off := 62) (by decide +kernel) (by decide +kernel) (by decide +kernel) (by decide) ?_
    refine xaload_n C 0 rfl dX6_told_63 ?_
    refine gX6_31K C hK dX6_told_64 ?_
    exact xret C hR (rfl) dX6_told_67 (MO.mk (by rw [opTold, ci_f (by decide +kernel), ci_f (by decide +kernel), ci_f (by decide +kernel), ci_t rfl]) hX)
  ·
    subst h1
    refine xtabIn C 68 dX6_told_1 (off := 67) (by decide +kernel) (by decide +kernel) (by decide +kernel) (by decide) ?_
    refine xaload_n C 0 rfl dX6_told_68 ?_
    refine gX6_35K C hK dX6_told_69 ?_
    exact xret C hR (rfl) dX6_told_72 (MO.mk (by rw [opTold, ci_f (by decide +kernel), ci_f (by decide +kernel), ci_f (by decide +kernel), ci_f (by decide +kernel), ci_t rfl]) hX)
  ·
    subst h1
    refine xtabIn C 73 dX6_told_1 (off := 72) (by decide +kernel) (by decide +kernel) (by decide +kernel) (by decide) ?_
    refine xaload_n C 0 rfl dX6_told_73 ?_
    refine gX6_104 C dX6_told_74 ?_
    refine xtopi (y := sd) (hsd) ?_
    exact xret C hR (rfl) dX6_told_77 (MO.mk (by rw [opTold, ci_f (by decide +kernel), ci_f (by decide +kernel), ci_f (by decide +kernel), ci_f (by decide +kernel), ci_f (by decide +kernel), ci_t rfl]) hX)
  ·
    subst h1
    refine xtabIn C 78 dX6_told_1 (off := 77) (by decide +kernel) (by decide +kernel) (by decide +kernel) (by decide) ?_
    refine xaload_n C 0 rfl dX6_told_78 ?_
    refine gX6_60 C dX6_told_79 ?_
    refine xtopi (y := nI (dkN dk)) (hdk) ?_
    have hdl := dkN_le dk
    refine xif_eqN C 89 dX6_told_82 (by decide) (by omega) (fun h82 => ?_) (fun h82 => ?_)
    ·
      refine xiconst (v := nI 0) C dX6_told_89 (by decide) ?_
      exact xret C hR (rfl) dX6_told_90 (MO.mk (by rw [opTold, ci_f (by decide +kernel), ci_f (by decide +kernel), ci_f (by decide +kernel), ci_f (by decide +kernel), ci_f (by decide +kernel), ci_f (by decide +kernel), ci_t rfl, show dkN dk = 0 from h82]) hX)
    ·
      refine xiconst (v := nI 1) C dX6_told_85 (by decide) ?_
      refine xgoto C 90 dX6_told_86 (by decide) ?_
      exact xret C hR (rfl) dX6_told_90 (MO.mk (by rw [opTold, ci_f (by decide +kernel), ci_f (by decide +kernel), ci_f (by decide +kernel), ci_f (by decide +kernel), ci_f (by decide +kernel), ci_f (by decide +kernel), ci_t rfl, show dkN dk = 1 from by rw [dk1 h82]; rfl]) hX)
  ·
    subst h1
    refine xtabIn C 91 dX6_told_1 (off := 90) (by decide +kernel) (by decide +kernel) (by decide +kernel) (by decide) ?_
    refine xiconst (v := nI 0) C dX6_told_91 (by decide) ?_
    refine xistore_n (lv' := [(2, .int (nI 0)), (0, .ref (b 0)), (1, .int 7)]) C dX6_told_92 (by decide) rfl ?_
    refine xiconst (v := nI 0) C dX6_told_93 (by decide) ?_
    refine xistore_n (lv' := [(3, .int (nI 0)), (2, .int (nI 0)), (0, .ref (b 0)), (1, .int 7)]) C dX6_told_94 (by decide) rfl ?_
    have LP95 : ∀ (fu95 : Nat) (k : Nat) (hk : k ≤ km K), km K - k < fu95 → XW X 0 0 (WM b t I F) [(0, .ref (b 0)), (1, .int 7), (2, .int (nI (cn (likP K hd) k))), (3, .int (nI k))] 95 [] := by
      intro fu95
      induction fu95 with
      | zero => intro k hk hm95; exact absurd hm95 (Nat.not_lt_zero _)
      | succ fu95 ih95 =>
        intro k hk hm95
        have hla : ∀ z, z < km K → kla K z < kn K ∧ klb K z < kn K := fun z hz => ⟨hW.la hz, hW.lb hz⟩
        refine xiload_n C 3 rfl dX6_told_95 ?_
        refine xaload_n C 0 rfl dX6_told_96 ?_
        refine gX6_79K C hK dX6_told_97 ?_
        refine xicmp_geN C 142 dX6_told_100 (by decide) (by omega) (by omega) (fun h100 => ?_) (fun h100 => ?_)
        ·
          refine xiload_n C 2 rfl dX6_told_142 ?_
          exact xret C hR (rfl) dX6_told_143 (MO.mk (by rw [opTold, ci_f (by decide +kernel), ci_f (by decide +kernel), ci_f (by decide +kernel), ci_f (by decide +kernel), ci_f (by decide +kernel), ci_f (by decide +kernel), ci_f (by decide +kernel), ci_t rfl, show km K = k by omega]) hX)
        ·
          refine xiload_n C 2 rfl dX6_told_103 ?_
          refine xaload_n C 0 rfl dX6_told_104 ?_
          refine gX6_38 C dX6_told_105 ?_
          refine xaload_n C 0 rfl dX6_told_108 ?_
          refine gX6_25 C dX6_told_109 ?_
          refine xiload_n C 3 rfl dX6_told_112 ?_
          refine ma_la C hK hW k (by omega) dX6_told_113 ?_
          have fb113 := (hW.la (by omega))
          refine ma_st C hW 12 (by decide) (by decide) hHd (kla K k) (by omega) dX6_told_114 ?_
          have fb114 := (hHd (kla K k) (by omega)).2
          refine xaload_n C 0 rfl dX6_told_115 ?_
          refine gX6_38 C dX6_told_116 ?_
          refine xaload_n C 0 rfl dX6_told_119 ?_
          refine gX6_28 C dX6_told_120 ?_
          refine xiload_n C 3 rfl dX6_told_123 ?_
          refine ma_lb C hK hW k (by omega) dX6_told_124 ?_
          have fb124 := (hW.lb (by omega))
          refine ma_st C hW 12 (by decide) (by decide) hHd (klb K k) (by omega) dX6_told_125 ?_
          have fb125 := (hHd (klb K k) (by omega)).2
          refine xicmp_neN C 133 dX6_told_126 (by decide) (by omega) (by omega) (fun h126 => ?_) (fun h126 => ?_)
          ·
            refine xiconst (v := nI 0) C dX6_told_133 (by decide) ?_
            refine xiaddN C dX6_told_134 ?_
            refine xistore_n (lv' := [(2, .int (nI ((cn (likP K hd) k) + 0))), (0, .ref (b 0)), (1, .int 7), (3, .int (nI k))]) C dX6_told_135 (by decide) rfl ?_
            refine xlocals (lv' := [(2, .int (nI (cn (likP K hd) (k + 1)))), (0, .ref (b 0)), (1, .int 7), (3, .int (nI k))]) (by rw [show cn (likP K hd) (k + 1) = cn (likP K hd) k + bn (likP K hd k) from rfl, bn_f (P := likP K hd k) h126, Nat.add_zero]) ?_
            refine xiincN (lv' := [(3, .int (nI (k + 1))), (2, .int (nI (cn (likP K hd) (k + 1)))), (0, .ref (b 0)), (1, .int 7)]) C 3 rfl dX6_told_136 (by decide) rfl ?_
            refine xgoto C 95 dX6_told_139 (by decide) ?_
            refine xsub [2, 3, 1, 0] rfl ?_
            exact ih95 (k + 1) (by omega) (by omega)
          ·
            refine xiconst (v := nI 1) C dX6_told_129 (by decide) ?_
            refine xgoto C 134 dX6_told_130 (by decide) ?_
            refine xiaddN C dX6_told_134 ?_
            refine xistore_n (lv' := [(2, .int (nI ((cn (likP K hd) k) + 1))), (0, .ref (b 0)), (1, .int 7), (3, .int (nI k))]) C dX6_told_135 (by decide) rfl ?_
            refine xlocals (lv' := [(2, .int (nI (cn (likP K hd) (k + 1)))), (0, .ref (b 0)), (1, .int 7), (3, .int (nI k))]) (by rw [show cn (likP K hd) (k + 1) = cn (likP K hd) k + bn (likP K hd k) from rfl, bn_t (P := likP K hd k) h126]) ?_
            refine xiincN (lv' := [(3, .int (nI (k + 1))), (2, .int (nI (cn (likP K hd) (k + 1)))), (0, .ref (b 0)), (1, .int 7)]) C 3 rfl dX6_told_136 (by decide) rfl ?_
            refine xgoto C 95 dX6_told_139 (by decide) ?_
            refine xsub [2, 3, 1, 0] rfl ?_
            exact ih95 (k + 1) (by omega) (by omega)
    refine xsub [2, 3, 1, 0] rfl ?_
    exact LP95 _ 0 (Nat.zero_le _) (Nat.lt_succ_self _)
  ·
    refine xtabOut C 144 dX6_told_1 h1 (by decide) ?_
    refine xldc C dX6_told_144 xcn_X6_172 ?_
    exact xret C hR (rfl) dX6_told_146 (MO.mk (by rw [opTold, ci_f (fun e => by subst e; revert h1; decide +kernel), ci_f (fun e => by subst e; revert h1; decide +kernel), ci_f (fun e => by subst e; revert h1; decide +kernel), ci_f (fun e => by subst e; revert h1; decide +kernel), ci_f (fun e => by subst e; revert h1; decide +kernel), ci_f (fun e => by subst e; revert h1; decide +kernel), ci_f (fun e => by subst e; revert h1; decide +kernel), ci_f (fun e => by subst e; revert h1; decide +kernel)]) hX)
theorem dX6_about_0 : decode cX6_about 0 = .ok (.aload_n 0, 1) := by decide +kernel
theorem dX6_about_1 : decode cX6_about 1 = .ok (.iload_n 1, 1) := by decide +kernel
theorem dX6_about_2 : decode cX6_about 2 = .ok (.invokevirtual 75, 3) := by decide +kernel
theorem dX6_about_5 : decode cX6_about 5 = .ok (.ifCond .ne 5, 3) := by decide +kernel
theorem dX6_about_8 : decode cX6_about 8 = .ok (.iconst (-1), 1) := by decide +kernel
theorem dX6_about_9 : decode cX6_about 9 = .ok (.ireturn, 1) := by decide +kernel
theorem dX6_about_10 : decode cX6_about 10 = .ok (.iload_n 2, 1) := by decide +kernel
theorem dX6_about_11 : decode cX6_about 11 = .ok (.tableswitch 57 0 3 #[29, 36, 43, 50], 29) := by decide +kernel
theorem dX6_about_40 : decode cX6_about 40 = .ok (.aload_n 0, 1) := by decide +kernel
theorem dX6_about_41 : decode cX6_about 41 = .ok (.getfield 7, 3) := by decide +kernel
theorem dX6_about_44 : decode cX6_about 44 = .ok (.iload_n 1, 1) := by decide +kernel
theorem dX6_about_45 : decode cX6_about 45 = .ok (.iaload, 1) := by decide +kernel
theorem dX6_about_46 : decode cX6_about 46 = .ok (.ireturn, 1) := by decide +kernel
theorem dX6_about_47 : decode cX6_about 47 = .ok (.aload_n 0, 1) := by decide +kernel
theorem dX6_about_48 : decode cX6_about 48 = .ok (.getfield 13, 3) := by decide +kernel
theorem dX6_about_51 : decode cX6_about 51 = .ok (.iload_n 1, 1) := by decide +kernel
theorem dX6_about_52 : decode cX6_about 52 = .ok (.iaload, 1) := by decide +kernel
theorem dX6_about_53 : decode cX6_about 53 = .ok (.ireturn, 1) := by decide +kernel
theorem dX6_about_54 : decode cX6_about 54 = .ok (.aload_n 0, 1) := by decide +kernel
theorem dX6_about_55 : decode cX6_about 55 = .ok (.getfield 16, 3) := by decide +kernel
theorem dX6_about_58 : decode cX6_about 58 = .ok (.iload_n 1, 1) := by decide +kernel
theorem dX6_about_59 : decode cX6_about 59 = .ok (.iaload, 1) := by decide +kernel
theorem dX6_about_60 : decode cX6_about 60 = .ok (.ireturn, 1) := by decide +kernel
theorem dX6_about_61 : decode cX6_about 61 = .ok (.aload_n 0, 1) := by decide +kernel
theorem dX6_about_62 : decode cX6_about 62 = .ok (.getfield 19, 3) := by decide +kernel
theorem dX6_about_65 : decode cX6_about 65 = .ok (.iload_n 1, 1) := by decide +kernel
theorem dX6_about_66 : decode cX6_about 66 = .ok (.iaload, 1) := by decide +kernel
theorem dX6_about_67 : decode cX6_about 67 = .ok (.ireturn, 1) := by decide +kernel
theorem dX6_about_68 : decode cX6_about 68 = .ok (.iload_n 2, 1) := by decide +kernel
theorem dX6_about_69 : decode cX6_about 69 = .ok (.bipush 10, 2) := by decide +kernel
theorem dX6_about_71 : decode cX6_about 71 = .ok (.bipush 15, 2) := by decide +kernel
theorem dX6_about_73 : decode cX6_about 73 = .ok (.invokestatic 56, 3) := by decide +kernel
theorem dX6_about_76 : decode cX6_about 76 = .ok (.ifCond .ne 8, 3) := by decide +kernel
theorem dX6_about_79 : decode cX6_about 79 = .ok (.bipush (-2), 2) := by decide +kernel
theorem dX6_about_81 : decode cX6_about 81 = .ok (.goto 35, 3) := by decide +kernel
theorem dX6_about_84 : decode cX6_about 84 = .ok (.iload_n 2, 1) := by decide +kernel
theorem dX6_about_85 : decode cX6_about 85 = .ok (.bipush 10, 2) := by decide +kernel
theorem dX6_about_87 : decode cX6_about 87 = .ok (.isub, 1) := by decide +kernel
theorem dX6_about_88 : decode cX6_about 88 = .ok (.aload_n 0, 1) := by decide +kernel
theorem dX6_about_89 : decode cX6_about 89 = .ok (.getfield 19, 3) := by decide +kernel
theorem dX6_about_92 : decode cX6_about 92 = .ok (.iload_n 1, 1) := by decide +kernel
theorem dX6_about_93 : decode cX6_about 93 = .ok (.iaload, 1) := by decide +kernel
theorem dX6_about_94 : decode cX6_about 94 = .ok (.if_icmp .ge 20, 3) := by decide +kernel
theorem dX6_about_97 : decode cX6_about 97 = .ok (.aload_n 0, 1) := by decide +kernel
theorem dX6_about_98 : decode cX6_about 98 = .ok (.getfield 22, 3) := by decide +kernel
theorem dX6_about_101 : decode cX6_about 101 = .ok (.bipush 6, 2) := by decide +kernel
theorem dX6_about_103 : decode cX6_about 103 = .ok (.iload_n 1, 1) := by decide +kernel
theorem dX6_about_104 : decode cX6_about 104 = .ok (.imul, 1) := by decide +kernel
theorem dX6_about_105 : decode cX6_about 105 = .ok (.iload_n 2, 1) := by decide +kernel
theorem dX6_about_106 : decode cX6_about 106 = .ok (.iadd, 1) := by decide +kernel
theorem dX6_about_107 : decode cX6_about 107 = .ok (.bipush 10, 2) := by decide +kernel
theorem dX6_about_109 : decode cX6_about 109 = .ok (.isub, 1) := by decide +kernel
theorem dX6_about_110 : decode cX6_about 110 = .ok (.iaload, 1) := by decide +kernel
theorem dX6_about_111 : decode cX6_about 111 = .ok (.goto 5, 3) := by decide +kernel
theorem dX6_about_114 : decode cX6_about 114 = .ok (.bipush (-6), 2) := by decide +kernel
theorem dX6_about_116 : decode cX6_about 116 = .ok (.ireturn, 1) := by decide +kernel
def rX6_about : Room := { frames := 2, cells := 0, slots := 0, locals := 43 }
theorem yk_X6_about : YK yX6_about cX6_about 3 (some .int) 2 := ⟨xim_X6_about, xse_X6_about, xin_X6, xco_X6_about, by decide +kernel⟩
set_option maxRecDepth 4000 in
theorem c_X6_about {l : Launch} {D : va_G} {t : Nat → ClassId} {b : Nat → Nat} {I : Nat → Int32} {F : Nat → Nat → Int32} {K : Cfg} {sd : Int32} {hd : Nat → Nat} {dk : Bool} {dw : Nat → Nat} {mt : Int32} (hI : INV (K, sd, hd, dk, dw, mt)) (hX : RM (K, sd, hd, dk, dw, mt) I F) (x y : Int32) : CT l D t yX6_about cX6_about 3 (some .int) rX6_about 0 0 [.ref (b 0), .int x, .int y] (WM b t I F) (MO b t (opAbout (K, sd, hd, dk, dw, mt) x y)) := by
  refine CT.of (by decide +kernel) (by simp [lg_sl, Value.category]) (fun X C hR => ?_)
  refine xlocals (lv' := [(0, .ref (b 0)), (1, .int x), (2, .int y)]) rfl ?_
  obtain ⟨hK, hsd, hHd, hdk, hdr⟩ := id hX
  have hW : WFK K := hI.1
  have hrg := hI.2.1
  have fn24 := hW.n24; have fm60 := hW.m60; have fk2 := hW.k2; have fu1 := hW.u1; have fu9 := hW.u9; have fv1 := hW.v1; have fv9 := hW.v9
  refine xaload_n C 0 rfl dX6_about_0 ?_
  refine xiload_n C 1 rfl dX6_about_1 ?_
  refine xcVR C (c_X6_isPlace hK hW x) yk_X6_isPlace 0 rfl rfl xml_X6_75 ⟨⟨Nat.le_of_ble_eq_true rfl, Nat.le_of_ble_eq_true rfl⟩, ⟨rfl, rfl⟩, ⟨Nat.zero_le _, Nat.zero_le _⟩⟩ rfl (Nat.le_of_ble_eq_true rfl) dX6_about_2 ?_
  refine xif_neN C 10 dX6_about_5 (by decide) (bn_lt _) (fun h5 => ?_) (fun h5 => ?_)
  ·
    obtain ⟨p, hp, rfl⟩ := (bn_1 h5).nat hW
    refine xiload_n C 2 rfl dX6_about_10 ?_
    rcases sw03 y with h11 | h11 | h11 | h11 | h11
    ·
      subst h11
      refine xtabIn C 40 dX6_about_11 (off := 29) (by decide +kernel) (by decide +kernel) (by decide +kernel) (by decide) ?_
      refine xaload_n C 0 rfl dX6_about_40 ?_
      refine gX6_7 C dX6_about_41 ?_
      refine xiload_n C 1 rfl dX6_about_44 ?_
      refine ma_top C hK hW p (by omega) dX6_about_45 ?_
      have fb45 := (hW.top5 (by omega))
      exact xret C hR (rfl) dX6_about_46 (MO.mk (by rw [opAbout, ci_f (fun q => q (hasP_nat hW hp)), show cl (nI p) = p from nI_clamp (by omega), ci_t rfl]) hX)
    ·
      subst h11
      refine xtabIn C 47 dX6_about_11 (off := 36) (by decide +kernel) (by decide +kernel) (by decide +kernel) (by decide) ?_
      refine xaload_n C 0 rfl dX6_about_47 ?_
      refine gX6_13 C dX6_about_48 ?_
      refine xiload_n C 1 rfl dX6_about_51 ?_
      refine ma_si C hK hW p (by omega) dX6_about_52 ?_
      have fb52 := (hW.si1 (by omega))
      exact xret C hR (rfl) dX6_about_53 (MO.mk (by rw [opAbout, ci_f (fun q => q (hasP_nat hW hp)), show cl (nI p) = p from nI_clamp (by omega), ci_f (by decide +kernel), ci_t rfl]) hX)
    ·
      subst h11
      refine xtabIn C 54 dX6_about_11 (off := 43) (by decide +kernel) (by decide +kernel) (by decide +kernel) (by decide) ?_
      refine xaload_n C 0 rfl dX6_about_54 ?_
      refine gX6_16 C dX6_about_55 ?_
      refine xiload_n C 1 rfl dX6_about_58 ?_
      refine ma_hd C hK hW p (by omega) dX6_about_59 ?_
      have fb59 := (hW.hd6 (by omega))
      exact xret C hR (rfl) dX6_about_60 (MO.mk (by rw [opAbout, ci_f (fun q => q (hasP_nat hW hp)), show cl (nI p) = p from nI_clamp (by omega), ci_f (by decide +kernel), ci_f (by decide +kernel), ci_t rfl]) hX)
    ·
      subst h11
      refine xtabIn C 61 dX6_about_11 (off := 50) (by decide +kernel) (by decide +kernel) (by decide +kernel) (by decide) ?_
      refine xaload_n C 0 rfl dX6_about_61 ?_
      refine gX6_19 C dX6_about_62 ?_
      refine xiload_n C 1 rfl dX6_about_65 ?_
      refine ma_dg C hK hW p (by omega) dX6_about_66 ?_
      have fb66 := hW.dg6 p
      exact xret C hR (rfl) dX6_about_67 (MO.mk (by rw [opAbout, ci_f (fun q => q (hasP_nat hW hp)), show cl (nI p) = p from nI_clamp (by omega), ci_f (by decide +kernel), ci_f (by decide +kernel), ci_f (by decide +kernel), ci_t rfl]) hX)
    ·
      refine xtabOut C 68 dX6_about_11 h11 (by decide) ?_
      refine xiload_n C 2 rfl dX6_about_68 ?_
      refine xbipush (v := 10) C dX6_about_69 (by decide) ?_
      refine xbipush (v := 15) C dX6_about_71 (by decide) ?_
      refine xcSR C (c_X6_in y 10 15) sk_X6_in xml_X6_56 ⟨⟨Nat.le_of_ble_eq_true rfl, Nat.le_of_ble_eq_true rfl⟩, ⟨rfl, rfl⟩, ⟨Nat.zero_le _, Nat.zero_le _⟩⟩ rfl (Nat.le_of_ble_eq_true rfl) dX6_about_73 ?_
      refine xif_neN C 84 dX6_about_76 (by decide) (bn_lt _) (fun h76 => ?_) (fun h76 => ?_)
      ·
        have hin := bn_1 h76
        obtain ⟨c, hc10, hc15, rfl⟩ := boxN (a := 10) (b := 15) (by decide) (by decide) hin.1 hin.2
        refine xiload_n C 2 rfl dX6_about_84 ?_
        refine xbipush (v := nI 10) C dX6_about_85 (by decide) ?_
        refine xisubN C (by omega) dX6_about_87 ?_
        refine xaload_n C 0 rfl dX6_about_88 ?_
        refine gX6_19 C dX6_about_89 ?_
        refine xiload_n C 1 rfl dX6_about_92 ?_
        refine ma_dg C hK hW p (by omega) dX6_about_93 ?_
        have fb93 := hW.dg6 p
        refine xicmp_geN C 114 dX6_about_94 (by decide) (by omega) (by omega) (fun h94 => ?_) (fun h94 => ?_)
        ·
          refine xbipush (v := -6) C dX6_about_114 (by decide) ?_
          exact xret C hR (rfl) dX6_about_116 (MO.mk (by rw [opAbout, ci_f (fun q => q (hasP_nat hW hp)), show cl (nI p) = p from nI_clamp (by omega), ci_f (show ¬ nI c = 0 from nneq (k := 0) (by omega) (by omega) (by omega)), ci_f (show ¬ nI c = 1 from nneq (k := 1) (by omega) (by omega) (by omega)), ci_f (show ¬ nI c = 2 from nneq (k := 2) (by omega) (by omega) (by omega)), ci_f (show ¬ nI c = 3 from nneq (k := 3) (by omega) (by omega) (by omega)), ci_f (not1015 hc10 hc15), show cl (nI c) = c from nI_clamp (by omega), ci_f (by omega)]) hX)
        ·
          refine xaload_n C 0 rfl dX6_about_97 ?_
          refine gX6_22 C dX6_about_98 ?_
          refine xbipush (v := nI 6) C dX6_about_101 (by decide) ?_
          refine xiload_n C 1 rfl dX6_about_103 ?_
          refine ximulN C dX6_about_104 ?_
          refine xiload_n C 2 rfl dX6_about_105 ?_
          refine xiaddN C dX6_about_106 ?_
          refine xbipush (v := nI 10) C dX6_about_107 (by decide) ?_
          refine xisubN C (by omega) dX6_about_109 ?_
          refine xtopi (y := nI ((6 * p) + (c - 10))) (by rw [show 6 * p + c - 10 = 6 * p + (c - 10) by omega]) ?_
          refine ma_nb C hK hW p ((c - 10)) (by omega) (by omega) dX6_about_110 ?_
          have fb110 := hW.nb (show p < kn K by omega) (show (c - 10) < kdg K p by omega)
          refine xgoto C 116 dX6_about_111 (by decide) ?_
          exact xret C hR (rfl) dX6_about_116 (MO.mk (by rw [opAbout, ci_f (fun q => q (hasP_nat hW hp)), show cl (nI p) = p from nI_clamp (by omega), ci_f (show ¬ nI c = 0 from nneq (k := 0) (by omega) (by omega) (by omega)), ci_f (show ¬ nI c = 1 from nneq (k := 1) (by omega) (by omega) (by omega)), ci_f (show ¬ nI c = 2 from nneq (k := 2) (by omega) (by omega) (by omega)), ci_f (show ¬ nI c = 3 from nneq (k := 3) (by omega) (by omega) (by omega)), ci_f (not1015 hc10 hc15), show cl (nI c) = c from nI_clamp (by omega), ci_t h94]) hX)
      ·
        refine xbipush (v := -2) C dX6_about_79 (by decide) ?_
        refine xgoto C 116 dX6_about_81 (by decide) ?_
        exact xret C hR (rfl) dX6_about_116 (MO.mk (by rw [opAbout, ci_f (fun q => q (hasP_nat hW hp)), show cl (nI p) = p from nI_clamp (by omega), ci_f (fun e => by subst e; revert h11; decide +kernel), ci_f (fun e => by subst e; revert h11; decide +kernel), ci_f (fun e => by subst e; revert h11; decide +kernel), ci_f (fun e => by subst e; revert h11; decide +kernel), ci_t (nand (bn_0 h76))]) hX)
  ·
    have h5 := bn_0 h5
    refine xiconst (v := -1) C dX6_about_8 (by decide) ?_
    exact xret C hR (rfl) dX6_about_9 (MO.mk (by rw [opAbout, ci_t h5]) hX)
