/-! Small (written by my program parts_x3.py). -/
def gN (K : Cfg) (p : Nat) : Nat := mostN K p + 1
/-- how many states; the i-th one -/
def stN (K : Cfg) : Nat := pr (gN K) (kn K)
def dgN (K : Cfg) (i p : Nat) : Nat := i / pr (gN K) p % gN K p
def smlP (K : Cfg) : Prop := km K ≤ 12 ∧ stN K ≤ 5000
noncomputable def trN (K : Cfg) (w p q : Nat) (f : Nat → Nat) : Nat := match w with
  | 0 => bn (woN K f ≠ 0)
  | 1 => woN K f
  | 2 => woN K f * f p
  | _ => if f p = f q then woN K f else 0
noncomputable def suN (K : Cfg) (w p q : Nat) : Nat := sm (fun i => trN K w p q (dgN K i)) (stN K)
theorem pr_leC {g : Nat → Nat} {c : Nat} : ∀ {k : Nat}, (∀ i, i < k → g i ≤ c) → pr g k ≤ c ^ k
  | 0, _ => Nat.le_refl 1
  | k + 1, h => by
    show pr g k * g k ≤ c ^ (k + 1)
    rw [Nat.pow_succ]
    exact Nat.mul_le_mul (pr_leC (fun i hi => h i (by omega))) (h k (by omega))
theorem pr_geC {g : Nat → Nat} {c : Nat} : ∀ {k : Nat}, (∀ i, i < k → c ≤ g i) → c ^ k ≤ pr g k
  | 0, _ => Nat.le_refl 1
  | k + 1, h => by
    show c ^ (k + 1) ≤ pr g k * g k
    rw [Nat.pow_succ]
    exact Nat.mul_le_mul (pr_geC (fun i hi => h i (by omega))) (h k (by omega))
theorem stN_lt {K : Cfg} (hW : WFK K) : stN K < 2 ^ 63 := by
  have h1 : stN K ≤ 6 ^ kn K := pr_leC (fun i hi => by have := mostN_le hW hi; unfold gN; omega)
  have h2 : 6 ^ kn K ≤ 6 ^ 24 := Nat.pow_le_pow_right (by decide) hW.n24
  exact Nat.lt_of_le_of_lt (Nat.le_trans h1 h2) (by decide)
theorem woN_le {K : Cfg} (hW : WFK K) (hs : smlP K) (f : Nat → Nat) : woN K f ≤ 9 ^ 12 := by
  have h12 := hs.1
  have h5k := hs.2
  unfold woN
  by_cases k2 : kk K = 2
  · have hn : kn K ≤ 12 := by
      rcases Nat.lt_or_ge 12 (kn K) with q | q
      · have h1 : 2 ^ kn K ≤ stN K := pr_geC (fun i hi => by have := mostN_pos hW hi; unfold gN; omega)
        have h2 : 2 ^ 13 ≤ 2 ^ kn K := Nat.pow_le_pow_right (by decide) q
        have h3 : (2 : Nat) ^ 13 = 8192 := by decide
        omega
      · exact q
    have h1 := pr_leC (g := fun p => pwN K p (f p)) (c := 9) (k := kn K) (fun i _ => pwN_le hW i _)
    have h2 := pr_leC (g := fun k => lwN K (f (kla K k)) (f (klb K k))) (c := 1) (k := km K) (fun i _ => by unfold lwN; rw [if_neg (by omega), if_neg (by omega)]; split <;> omega)
    rw [Nat.one_pow] at h2
    have h3 : 9 ^ kn K ≤ 9 ^ 12 := Nat.pow_le_pow_right (by decide) hn
    exact Nat.le_trans (Nat.mul_le_mul (Nat.le_trans h1 h3) h2) (by decide)
  · have h1 := pr_leC (g := fun p => pwN K p (f p)) (c := 1) (k := kn K) (fun i _ => by unfold pwN; split; omega; first | (rw [if_neg k2]; omega) | omega)
    have h2 := pr_leC (g := fun k => lwN K (f (kla K k)) (f (klb K k))) (c := 9) (k := km K) (fun i _ => lwN_le hW _ _)
    rw [Nat.one_pow] at h1
    have h3 : 9 ^ km K ≤ 9 ^ 12 := Nat.pow_le_pow_right (by decide) h12
    exact Nat.le_trans (Nat.mul_le_mul h1 (Nat.le_trans h2 h3)) (by decide)
theorem pr_pos {g : Nat → Nat} (h : ∀ i, 0 < g i) : ∀ k, 0 < pr g k
  | 0 => Nat.one_pos
  | k + 1 => Nat.mul_pos (pr_pos h k) (h k)
theorem gN_pos (K : Cfg) (i : Nat) : 0 < gN K i := Nat.succ_pos _
theorem pr_split (g : Nat → Nat) (p : Nat) : ∀ r, ∃ c, pr g (p + r) = pr g p * c
  | 0 => ⟨1, by rw [Nat.add_zero, Nat.mul_one]⟩
  | r + 1 => by
    obtain ⟨c, hc⟩ := pr_split g p r
    exact ⟨c * g (p + r), by show pr g (p + r) * g (p + r) = _; rw [hc, Nat.mul_assoc]⟩
theorem pr_split1 (g : Nat → Nat) {p q : Nat} (h : p < q) : ∃ c, pr g q = pr g p * (g p * c) := by
  obtain ⟨c, hc⟩ := pr_split g (p + 1) (q - (p + 1))
  rw [show p + 1 + (q - (p + 1)) = q by omega] at hc
  exact ⟨c, by rw [hc, show pr g (p + 1) = pr g p * g p from rfl, Nat.mul_assoc]⟩
theorem odo_zero {K : Cfg} {i p q : Nat} (hm : (i + 1) % pr (gN K) q = 0) (h : p < q) : dgN K (i + 1) p = 0 := by
  obtain ⟨c, hc⟩ := pr_split1 (gN K) h
  obtain ⟨d, hd⟩ := Nat.dvd_of_mod_eq_zero hm
  unfold dgN
  rw [hd, hc, Nat.mul_assoc, Nat.mul_div_cancel_left _ (pr_pos (gN_pos K) p), Nat.mul_assoc, Nat.mul_mod_right]
theorem odo_div {K : Cfg} {i q : Nat} (hm : (i + 1) % pr (gN K) q = 0) : (i + 1) / pr (gN K) q = i / pr (gN K) q + 1 := by
  have hp := pr_pos (gN_pos K) q
  obtain ⟨d, hd⟩ := Nat.dvd_of_mod_eq_zero hm
  have hd0 : 0 < d := by
    rcases Nat.eq_zero_or_pos d with e | e
    · rw [e, Nat.mul_zero] at hd; omega
    · exact e
  obtain ⟨e, rfl⟩ : ∃ e, d = e + 1 := ⟨d - 1, by omega⟩
  have h1 : i = pr (gN K) q * e + (pr (gN K) q - 1) := by rw [Nat.mul_add, Nat.mul_one] at hd; omega
  have h2 : i / pr (gN K) q = e := by
    rw [h1, Nat.mul_add_div hp, Nat.div_eq_of_lt (by omega)]
    omega
  rw [hd, Nat.mul_div_cancel_left _ hp, h2]
theorem odo_mod {K : Cfg} {i q : Nat} (hm : (i + 1) % pr (gN K) q = 0) (h : mostN K q ≤ dgN K i q) : (i + 1) % pr (gN K) (q + 1) = 0 := by
  have hlt : dgN K i q < gN K q := Nat.mod_lt _ (gN_pos K q)
  have hg : gN K q = mostN K q + 1 := rfl
  have h1 : (i / pr (gN K) q + 1) % gN K q = 0 := by
    have h2 : i / pr (gN K) q % gN K q = gN K q - 1 := by show dgN K i q = _; omega
    rw [Nat.add_mod, h2]
    rcases Nat.lt_or_ge 1 (gN K q) with q1 | q1
    · rw [Nat.mod_eq_of_lt q1, show gN K q - 1 + 1 = gN K q by omega, Nat.mod_self]
    · have : gN K q = 1 := by have := gN_pos K q; omega
      rw [this]
  rw [← odo_div hm] at h1
  obtain ⟨c, hc⟩ := Nat.dvd_of_mod_eq_zero h1
  have h3 : i + 1 = pr (gN K) q * ((i + 1) / pr (gN K) q) := by
    have := Nat.div_add_mod (i + 1) (pr (gN K) q)
    omega
  rw [h3, hc, show pr (gN K) (q + 1) = pr (gN K) q * gN K q from rfl, ← Nat.mul_assoc, Nat.mul_mod_right]
theorem odo_RA {K : Cfg} {i q : Nat} {g : Nat → Int32} {n : Nat} (h : RA n g (fun p => if p < q then 0 else dgN K i p)) : RA n (upd g q (nI 0)) (fun p => if p < q + 1 then 0 else dgN K i p) := by
  intro p hp
  unfold upd
  by_cases e : p = q
  · subst e
    rw [if_pos rfl]
    show nI 0 = nI (if p < p + 1 then 0 else _) ∧ _
    rw [if_pos (Nat.lt_succ_self p)]
    exact ⟨rfl, by show (if p < p + 1 then 0 else _) ≤ 5; rw [if_pos (Nat.lt_succ_self p)]; omega⟩
  · rw [if_neg e]
    have h1 := h p hp
    dsimp only at h1
    show g p = nI (if p < q + 1 then 0 else dgN K i p) ∧ (if p < q + 1 then 0 else dgN K i p) ≤ 5
    by_cases e2 : p < q
    · rw [if_pos (show p < q + 1 by omega)]
      rw [if_pos e2] at h1
      exact h1
    · rw [if_neg (show ¬ p < q + 1 by omega)]
      rw [if_neg e2] at h1
      exact h1
theorem odo_up {K : Cfg} (hW : WFK K) {i q : Nat} {g : Nat → Int32} (hm : (i + 1) % pr (gN K) q = 0) (h : RA (kn K) g (fun p => if p < q then 0 else dgN K i p)) (hq : q < kn K) (hd : dgN K i q < mostN K q) : RA (kn K) (upd g q (nI (dgN K i q + 1))) (dgN K (i + 1)) := by
  have hg : gN K q = mostN K q + 1 := rfl
  have e0 : dgN K (i + 1) q = dgN K i q + 1 := by
    show (i + 1) / pr (gN K) q % gN K q = _
    rw [odo_div hm, Nat.add_mod, Nat.mod_eq_of_lt (show 1 < gN K q by omega)]
    show (dgN K i q + 1) % gN K q = _
    exact Nat.mod_eq_of_lt (by omega)
  intro p hp
  unfold upd
  by_cases e : p = q
  · subst e
    rw [if_pos rfl, e0]
    exact ⟨rfl, by have := mostN_le hW hp; omega⟩
  · rw [if_neg e]
    have h1 := h p hp
    dsimp only at h1
    by_cases e2 : p < q
    · rw [if_pos e2] at h1
      rw [odo_zero hm e2]
      exact h1
    · rw [if_neg e2] at h1
      have e3 : dgN K (i + 1) p = dgN K i p := by
        have hqp : q + 1 ≤ p := by omega
        obtain ⟨c, hc⟩ := pr_split (gN K) (q + 1) (p - (q + 1))
        rw [show q + 1 + (p - (q + 1)) = p by omega] at hc
        have hdiv : (i + 1) / pr (gN K) (q + 1) = i / pr (gN K) (q + 1) := by
          show (i + 1) / (pr (gN K) q * gN K q) = i / (pr (gN K) q * gN K q)
          rw [← Nat.div_div_eq_div_mul, ← Nat.div_div_eq_div_mul, odo_div hm]
          have h4 := Nat.div_add_mod (i / pr (gN K) q) (gN K q)
          have h5 : i / pr (gN K) q % gN K q = dgN K i q := rfl
          rw [h5] at h4
          have h6 : i / pr (gN K) q + 1 = gN K q * (i / pr (gN K) q / gN K q) + (dgN K i q + 1) := by omega
          rw [h6, Nat.mul_add_div (gN_pos K q), Nat.div_eq_of_lt (show dgN K i q + 1 < gN K q by omega), Nat.add_zero]
        unfold dgN
        rw [hc, ← Nat.div_div_eq_div_mul, ← Nat.div_div_eq_div_mul, hdiv]
      rw [e3]
      exact h1
/-- Euclid's steps -/
def fbp : Nat → Nat × Nat
  | 0 => (0, 1)
  | n + 1 => match fbp n with
    | (x, y) => (y, x + y)
def fb (n : Nat) : Nat := (fbp n).1
theorem fb_step (n : Nat) : fb (n + 2) = fb (n + 1) + fb n := by
  show (fbp (n + 2)).1 = (fbp (n + 1)).1 + (fbp n).1
  have e : ∀ k, fbp (k + 1) = ((fbp k).2, (fbp k).1 + (fbp k).2) := fun k => rfl
  rw [e (n + 1), e n]
  exact Nat.add_comm _ _
theorem fb101 : 2 ^ 62 < fb 101 := by decide +kernel
theorem eu_step {i x y : Nat} (hi : i < 100) (hy : 0 < y) (hyb : y < 2 ^ 62) (h : i = 0 ∨ (y < x ∧ (x < fb (102 - i) ∨ y < fb (101 - i)))) : x % y < y ∧ (y < fb (102 - (i + 1)) ∨ x % y < fb (101 - (i + 1))) := by
  refine ⟨Nat.mod_lt _ hy, ?_⟩
  rcases h with rfl | ⟨h1, h2⟩
  · exact Or.inl (Nat.lt_trans hyb fb101)
  · rcases Nat.lt_or_ge y (fb (101 - i)) with q | q
    · exact Or.inl (by rw [show 102 - (i + 1) = 101 - i by omega]; exact q)
    · right
      have h3 : x < fb (102 - i) := by
        rcases h2 with h2 | h2
        · exact h2
        · omega
      have h4 := fb_step (100 - i)
      rw [show 100 - i + 2 = 102 - i by omega, show 100 - i + 1 = 101 - i by omega] at h4
      rw [show 101 - (i + 1) = 100 - i by omega]
      have h5 : x % y + y ≤ x := by
        have := Nat.div_add_mod x y
        have h6 : 0 < x / y := Nat.div_pos (Nat.le_of_lt h1) hy
        have h7 : y * 1 ≤ y * (x / y) := Nat.mul_le_mul (Nat.le_refl y) h6
        omega
      omega
theorem eu_zero {i x y : Nat} (hi : i = 100) (h : i = 0 ∨ (y < x ∧ (x < fb (102 - i) ∨ y < fb (101 - i)))) : y = 0 := by
  subst hi
  rcases h with h | ⟨h1, h2⟩
  · omega
  · have e1 : fb (102 - 100) = 1 := by decide +kernel
    have e2 : fb (101 - 100) = 1 := by decide +kernel
    rw [e1, e2] at h2
    omega
theorem eu_end {x y u v : Nat} (hg : Nat.gcd x y = Nat.gcd u v) (hy : y = 0) : x = Nat.gcd u v := by
  subst hy
  rw [← hg, Nat.gcd_zero_right]
theorem trN_le {K : Cfg} (hW : WFK K) (hs : smlP K) {w p q : Nat} {f : Nat → Nat} (hf : f p ≤ 5) : trN K w p q f ≤ 5 * 9 ^ 12 := by
  have h := woN_le hW hs f
  have e : (9 : Nat) ^ 12 = 282429536481 := by decide
  rw [e] at h ⊢
  unfold trN
  split
  · have := bn_le (woN K f ≠ 0); omega
  · omega
  · have := Nat.mul_le_mul h hf; omega
  · split <;> omega
theorem sm_leC {g : Nat → Nat} {c : Nat} : ∀ {k : Nat}, (∀ i, i < k → g i ≤ c) → sm g k ≤ k * c
  | 0, _ => Nat.zero_le _
  | k + 1, h => by
    show sm g k + g k ≤ (k + 1) * c
    have h1 := sm_leC (k := k) (fun i hi => h i (by omega))
    have h2 := h k (by omega)
    rw [Nat.add_mul]
    omega
theorem suN_lt {K : Cfg} (hW : WFK K) (hs : smlP K) (w : Nat) {p : Nat} (q : Nat) (hp : p < kn K) : suN K w p q < 2 ^ 62 := by
  have h1 : suN K w p q ≤ stN K * (5 * 9 ^ 12) := sm_leC (fun i hi => trN_le hW hs (by
    have h2 : dgN K i p < gN K p := Nat.mod_lt _ (gN_pos K p)
    have h3 := mostN_le hW hp
    have h4 : gN K p = mostN K p + 1 := rfl
    omega))
  exact Nat.lt_of_le_of_lt (Nat.le_trans h1 (Nat.mul_le_mul hs.2 (Nat.le_refl _))) (by decide)
theorem dX3_states_0 : decode cX3_states 0 = .ok (.lconst 1, 1) := by decide +kernel
theorem dX3_states_1 : decode cX3_states 1 = .ok (.lstore_n 1, 1) := by decide +kernel
theorem dX3_states_2 : decode cX3_states 2 = .ok (.iconst 0, 1) := by decide +kernel
theorem dX3_states_3 : decode cX3_states 3 = .ok (.istore_n 3, 1) := by decide +kernel
theorem dX3_states_4 : decode cX3_states 4 = .ok (.iload_n 3, 1) := by decide +kernel
theorem dX3_states_5 : decode cX3_states 5 = .ok (.aload_n 0, 1) := by decide +kernel
theorem dX3_states_6 : decode cX3_states 6 = .ok (.getfield 15, 3) := by decide +kernel
theorem dX3_states_9 : decode cX3_states 9 = .ok (.getfield 35, 3) := by decide +kernel
theorem dX3_states_12 : decode cX3_states 12 = .ok (.if_icmp .ge 23, 3) := by decide +kernel
theorem dX3_states_15 : decode cX3_states 15 = .ok (.lload_n 1, 1) := by decide +kernel
theorem dX3_states_16 : decode cX3_states 16 = .ok (.aload_n 0, 1) := by decide +kernel
theorem dX3_states_17 : decode cX3_states 17 = .ok (.getfield 19, 3) := by decide +kernel
theorem dX3_states_20 : decode cX3_states 20 = .ok (.iload_n 3, 1) := by decide +kernel
theorem dX3_states_21 : decode cX3_states 21 = .ok (.invokevirtual 38, 3) := by decide +kernel
theorem dX3_states_24 : decode cX3_states 24 = .ok (.iconst 1, 1) := by decide +kernel
theorem dX3_states_25 : decode cX3_states 25 = .ok (.iadd, 1) := by decide +kernel
theorem dX3_states_26 : decode cX3_states 26 = .ok (.i2l, 1) := by decide +kernel
theorem dX3_states_27 : decode cX3_states 27 = .ok (.lmul, 1) := by decide +kernel
theorem dX3_states_28 : decode cX3_states 28 = .ok (.lstore_n 1, 1) := by decide +kernel
theorem dX3_states_29 : decode cX3_states 29 = .ok (.iinc 3 1, 3) := by decide +kernel
theorem dX3_states_32 : decode cX3_states 32 = .ok (.goto (-28), 3) := by decide +kernel
theorem dX3_states_35 : decode cX3_states 35 = .ok (.lload_n 1, 1) := by decide +kernel
theorem dX3_states_36 : decode cX3_states 36 = .ok (.lreturn, 1) := by decide +kernel
def rX3_states : Room := { frames := 1, cells := 0, slots := 0, locals := 21 }
theorem yk_X3_states : YK yX3_states cX3_states 4 (some .long) 0 := ⟨xim_X3_states, xse_X3_states, xin_X3, xco_X3_states, by decide +kernel⟩
set_option maxRecDepth 4000 in
theorem c_X3_states {l : Launch} {D : va_G} {t : Nat → ClassId} {a : Nat → Nat} {I : Nat → Int32} {F : Nat → Nat → Int32} {L : Nat → Int64} {K : Cfg} (hK : CFG K I F) (hW : WFK K)  : CT l D t yX3_states cX3_states 4 (some .long) rX3_states 0 0 [.ref (a 5)] (WX a t I F L) (RP (.long (lN (stN K))) (WX a t I F L)) := by
  refine CT.of (by decide +kernel) (by simp [lg_sl, Value.category]) (fun X C hR => ?_)
  refine xlocals (lv' := [(0, .ref (a 5))]) rfl ?_
  have fn24 := hW.n24; have fm60 := hW.m60; have fk2 := hW.k2; have fu1 := hW.u1; have fu9 := hW.u9; have fv1 := hW.v1; have fv9 := hW.v9
  refine xlconst (v := lN 1) C dX3_states_0 (by decide) ?_
  refine xlstore_n (lv' := [(1, .long (lN 1)), (0, .ref (a 5))]) C dX3_states_1 (by decide) rfl ?_
  refine xiconst (v := nI 0) C dX3_states_2 (by decide) ?_
  refine xistore_n (lv' := [(3, .int (nI 0)), (1, .long (lN 1)), (0, .ref (a 5))]) C dX3_states_3 (by decide) rfl ?_
  have LP4 : ∀ (fu4 : Nat) (i : Nat) (hi : i ≤ kn K), kn K - i < fu4 → XW X 0 0 (WX a t I F L) [(0, .ref (a 5)), (1, .long (lN (pr (gN K) i))), (3, .int (nI i))] 4 [] := by
    intro fu4
    induction fu4 with
    | zero => intro i hi hm4; exact absurd hm4 (Nat.not_lt_zero _)
    | succ fu4 ih4 =>
      intro i hi hm4
      refine xiload_n C 2 rfl dX3_states_4 ?_
      refine xaload_n C 0 rfl dX3_states_5 ?_
      refine gX3_15 C dX3_states_6 ?_
      refine gX3_35K C hK dX3_states_9 ?_
      refine xicmp_geN C 35 dX3_states_12 (by decide) (by omega) (by omega) (fun h12 => ?_) (fun h12 => ?_)
      ·
        refine xlload_n C 1 rfl dX3_states_35 ?_
        exact xlret C hR dX3_states_36 (RPl (by (have e : i = kn K := (by omega)); subst e; rfl))
      ·
        refine xlload_n C 1 rfl dX3_states_15 ?_
        refine xaload_n C 0 rfl dX3_states_16 ?_
        refine gX3_19 C dX3_states_17 ?_
        refine xiload_n C 2 rfl dX3_states_20 ?_
        refine xcVR C (c_X2_most hK hW i (by omega)) yk_X2_most 2 rfl rfl xml_X3_38 ⟨⟨Nat.le_of_ble_eq_true rfl, Nat.le_of_ble_eq_true rfl⟩, ⟨rfl, rfl⟩, ⟨Nat.zero_le _, Nat.zero_le _⟩⟩ rfl (Nat.le_of_ble_eq_true rfl) dX3_states_21 ?_
        have fm21 := mostN_le hW (show i < kn K by omega)
        refine xiconst (v := nI 1) C dX3_states_24 (by decide) ?_
        refine xiaddN C dX3_states_25 ?_
        refine xi2lN C (by omega) dX3_states_26 ?_
        refine xlmulN C dX3_states_27 ?_
        refine xtopl (y := lN (pr (gN K) (i + 1))) (rfl) ?_
        refine xlstore_n (lv' := [(1, .long (lN (pr (gN K) (i + 1)))), (0, .ref (a 5)), (3, .int (nI i))]) C dX3_states_28 (by decide) rfl ?_
        refine xiincN (lv' := [(3, .int (nI (i + 1))), (1, .long (lN (pr (gN K) (i + 1)))), (0, .ref (a 5))]) C 2 rfl dX3_states_29 (by decide) rfl ?_
        refine xgoto C 4 dX3_states_32 (by decide) ?_
        refine xsub [2, 1, 0] rfl ?_
        exact ih4 (i + 1) (by omega) (by omega)
  refine xsub [2, 1, 0] rfl ?_
  exact LP4 _ 0 (Nat.zero_le _) (Nat.lt_succ_self _)
theorem dX3_isSmall_0 : decode cX3_isSmall 0 = .ok (.aload_n 0, 1) := by decide +kernel
theorem dX3_isSmall_1 : decode cX3_isSmall 1 = .ok (.getfield 15, 3) := by decide +kernel
theorem dX3_isSmall_4 : decode cX3_isSmall 4 = .ok (.getfield 23, 3) := by decide +kernel
theorem dX3_isSmall_7 : decode cX3_isSmall 7 = .ok (.bipush 12, 2) := by decide +kernel
theorem dX3_isSmall_9 : decode cX3_isSmall 9 = .ok (.if_icmp .gt 18, 3) := by decide +kernel
theorem dX3_isSmall_12 : decode cX3_isSmall 12 = .ok (.aload_n 0, 1) := by decide +kernel
theorem dX3_isSmall_13 : decode cX3_isSmall 13 = .ok (.invokevirtual 29, 3) := by decide +kernel
theorem dX3_isSmall_16 : decode cX3_isSmall 16 = .ok (.ldc2_w 33, 3) := by decide +kernel
theorem dX3_isSmall_19 : decode cX3_isSmall 19 = .ok (.lcmp, 1) := by decide +kernel
theorem dX3_isSmall_20 : decode cX3_isSmall 20 = .ok (.ifCond .gt 7, 3) := by decide +kernel
theorem dX3_isSmall_23 : decode cX3_isSmall 23 = .ok (.iconst 1, 1) := by decide +kernel
theorem dX3_isSmall_24 : decode cX3_isSmall 24 = .ok (.goto 4, 3) := by decide +kernel
theorem dX3_isSmall_27 : decode cX3_isSmall 27 = .ok (.iconst 0, 1) := by decide +kernel
theorem dX3_isSmall_28 : decode cX3_isSmall 28 = .ok (.ireturn, 1) := by decide +kernel
def rX3_isSmall : Room := { frames := 2, cells := 0, slots := 0, locals := 44 }
theorem yk_X3_isSmall : YK yX3_isSmall cX3_isSmall 1 (some .boolean) 0 := ⟨xim_X3_isSmall, xse_X3_isSmall, xin_X3, xco_X3_isSmall, by decide +kernel⟩
set_option maxRecDepth 4000 in
theorem c_X3_isSmall {l : Launch} {D : va_G} {t : Nat → ClassId} {a : Nat → Nat} {I : Nat → Int32} {F : Nat → Nat → Int32} {L : Nat → Int64} {K : Cfg} (hK : CFG K I F) (hW : WFK K)  : CT l D t yX3_isSmall cX3_isSmall 1 (some .boolean) rX3_isSmall 0 0 [.ref (a 5)] (WX a t I F L) (RP (.int (nI (bn (smlP K)))) (WX a t I F L)) := by
  refine CT.of (by decide +kernel) (by simp [lg_sl, Value.category]) (fun X C hR => ?_)
  refine xlocals (lv' := [(0, .ref (a 5))]) rfl ?_
  have fn24 := hW.n24; have fm60 := hW.m60; have fk2 := hW.k2; have fu1 := hW.u1; have fu9 := hW.u9; have fv1 := hW.v1; have fv9 := hW.v9
  refine xaload_n C 0 rfl dX3_isSmall_0 ?_
  refine gX3_15 C dX3_isSmall_1 ?_
  refine gX3_23K C hK dX3_isSmall_4 ?_
  refine xbipush (v := nI 12) C dX3_isSmall_7 (by decide) ?_
  refine xicmp_gtN C 27 dX3_isSmall_9 (by decide) (by omega) (by omega) (fun h9 => ?_) (fun h9 => ?_)
  ·
    refine xiconst (v := nI 0) C dX3_isSmall_27 (by decide) ?_
    exact xret C hR (by rfl) dX3_isSmall_28 (RPn ((bn_f (fun q => by have := q.1; omega)).symm))
  ·
    refine xaload_n C 0 rfl dX3_isSmall_12 ?_
    refine xcVR C (c_X3_states hK hW) yk_X3_states 5 rfl rfl xml_X3_29 ⟨⟨Nat.le_of_ble_eq_true rfl, Nat.le_of_ble_eq_true rfl⟩, ⟨rfl, rfl⟩, ⟨Nat.zero_le _, Nat.zero_le _⟩⟩ rfl (Nat.le_of_ble_eq_true rfl) dX3_isSmall_13 ?_
    refine xldc2 C dX3_isSmall_16 xcn_X3_33 ?_
    refine xtopl (y := lN 5000) (by decide +kernel) ?_
    refine xlcmp_gt C 27 dX3_isSmall_19 dX3_isSmall_20 (by decide) (stN_lt hW) (by decide) (fun h19 => ?_) (fun h19 => ?_)
    ·
      refine xiconst (v := nI 0) C dX3_isSmall_27 (by decide) ?_
      exact xret C hR (by rfl) dX3_isSmall_28 (RPn ((bn_f (fun q => by have := q.2; omega)).symm))
    ·
      refine xiconst (v := nI 1) C dX3_isSmall_23 (by decide) ?_
      refine xgoto C 28 dX3_isSmall_24 (by decide) ?_
      exact xret C hR (by rfl) dX3_isSmall_28 (RPn ((bn_t ⟨h9, h19⟩).symm))
theorem dX3_termOf_0 : decode cX3_termOf 0 = .ok (.aload_n 0, 1) := by decide +kernel
theorem dX3_termOf_1 : decode cX3_termOf 1 = .ok (.getfield 19, 3) := by decide +kernel
theorem dX3_termOf_4 : decode cX3_termOf 4 = .ok (.aload_n 0, 1) := by decide +kernel
theorem dX3_termOf_5 : decode cX3_termOf 5 = .ok (.getfield 9, 3) := by decide +kernel
theorem dX3_termOf_8 : decode cX3_termOf 8 = .ok (.invokevirtual 51, 3) := by decide +kernel
theorem dX3_termOf_11 : decode cX3_termOf 11 = .ok (.lstore 4, 2) := by decide +kernel
theorem dX3_termOf_13 : decode cX3_termOf 13 = .ok (.iload_n 1, 1) := by decide +kernel
theorem dX3_termOf_14 : decode cX3_termOf 14 = .ok (.tableswitch 53 0 2 #[26, 39, 42], 26) := by decide +kernel
theorem dX3_termOf_40 : decode cX3_termOf 40 = .ok (.lload 4, 2) := by decide +kernel
theorem dX3_termOf_42 : decode cX3_termOf 42 = .ok (.lconst 0, 1) := by decide +kernel
theorem dX3_termOf_43 : decode cX3_termOf 43 = .ok (.lcmp, 1) := by decide +kernel
theorem dX3_termOf_44 : decode cX3_termOf 44 = .ok (.ifCond .le 7, 3) := by decide +kernel
theorem dX3_termOf_47 : decode cX3_termOf 47 = .ok (.lconst 1, 1) := by decide +kernel
theorem dX3_termOf_48 : decode cX3_termOf 48 = .ok (.goto 4, 3) := by decide +kernel
theorem dX3_termOf_51 : decode cX3_termOf 51 = .ok (.lconst 0, 1) := by decide +kernel
theorem dX3_termOf_52 : decode cX3_termOf 52 = .ok (.lreturn, 1) := by decide +kernel
theorem dX3_termOf_53 : decode cX3_termOf 53 = .ok (.lload 4, 2) := by decide +kernel
theorem dX3_termOf_55 : decode cX3_termOf 55 = .ok (.lreturn, 1) := by decide +kernel
theorem dX3_termOf_56 : decode cX3_termOf 56 = .ok (.lload 4, 2) := by decide +kernel
theorem dX3_termOf_58 : decode cX3_termOf 58 = .ok (.aload_n 0, 1) := by decide +kernel
theorem dX3_termOf_59 : decode cX3_termOf 59 = .ok (.getfield 9, 3) := by decide +kernel
theorem dX3_termOf_62 : decode cX3_termOf 62 = .ok (.iload_n 2, 1) := by decide +kernel
theorem dX3_termOf_63 : decode cX3_termOf 63 = .ok (.iaload, 1) := by decide +kernel
theorem dX3_termOf_64 : decode cX3_termOf 64 = .ok (.i2l, 1) := by decide +kernel
theorem dX3_termOf_65 : decode cX3_termOf 65 = .ok (.lmul, 1) := by decide +kernel
theorem dX3_termOf_66 : decode cX3_termOf 66 = .ok (.lreturn, 1) := by decide +kernel
theorem dX3_termOf_67 : decode cX3_termOf 67 = .ok (.aload_n 0, 1) := by decide +kernel
theorem dX3_termOf_68 : decode cX3_termOf 68 = .ok (.getfield 9, 3) := by decide +kernel
theorem dX3_termOf_71 : decode cX3_termOf 71 = .ok (.iload_n 2, 1) := by decide +kernel
theorem dX3_termOf_72 : decode cX3_termOf 72 = .ok (.iaload, 1) := by decide +kernel
theorem dX3_termOf_73 : decode cX3_termOf 73 = .ok (.aload_n 0, 1) := by decide +kernel
theorem dX3_termOf_74 : decode cX3_termOf 74 = .ok (.getfield 9, 3) := by decide +kernel
theorem dX3_termOf_77 : decode cX3_termOf 77 = .ok (.iload_n 3, 1) := by decide +kernel
theorem dX3_termOf_78 : decode cX3_termOf 78 = .ok (.iaload, 1) := by decide +kernel
theorem dX3_termOf_79 : decode cX3_termOf 79 = .ok (.if_icmp .ne 8, 3) := by decide +kernel
theorem dX3_termOf_82 : decode cX3_termOf 82 = .ok (.lload 4, 2) := by decide +kernel
theorem dX3_termOf_84 : decode cX3_termOf 84 = .ok (.goto 4, 3) := by decide +kernel
theorem dX3_termOf_87 : decode cX3_termOf 87 = .ok (.lconst 0, 1) := by decide +kernel
theorem dX3_termOf_88 : decode cX3_termOf 88 = .ok (.lreturn, 1) := by decide +kernel
def rX3_termOf : Room := { frames := 3, cells := 0, slots := 0, locals := 67 }
theorem yk_X3_termOf : YK yX3_termOf cX3_termOf 6 (some .long) 3 := ⟨xim_X3_termOf, xse_X3_termOf, xin_X3, xco_X3_termOf, by decide +kernel⟩
set_option maxRecDepth 4000 in
theorem c_X3_termOf {l : Launch} {D : va_G} {t : Nat → ClassId} {a : Nat → Nat} {I : Nat → Int32} {F : Nat → Nat → Int32} {L : Nat → Int64} {K : Cfg} (hK : CFG K I F) (hW : WFK K) {f : Nat → Nat} (hS : RA (kn K) (F 11) f) (hs : smlP K) (w p q : Nat) (hw : w ≤ 3) (hp : p < kn K) (hq : q < kn K) : CT l D t yX3_termOf cX3_termOf 6 (some .long) rX3_termOf 0 0 [.ref (a 5), .int (nI w), .int (nI p), .int (nI q)] (WX a t I F L) (RP (.long (lN (trN K w p q f))) (WX a t I F L)) := by
  refine CT.of (by decide +kernel) (by simp [lg_sl, Value.category]) (fun X C hR => ?_)
  refine xlocals (lv' := [(0, .ref (a 5)), (1, .int (nI w)), (2, .int (nI p)), (3, .int (nI q))]) rfl ?_
  have fn24 := hW.n24; have fm60 := hW.m60; have fk2 := hW.k2; have fu1 := hW.u1; have fu9 := hW.u9; have fv1 := hW.v1; have fv9 := hW.v9
  refine xaload_n C 0 rfl dX3_termOf_0 ?_
  refine gX3_19 C dX3_termOf_1 ?_
  refine xaload_n C 0 rfl dX3_termOf_4 ?_
  refine gX3_9 C dX3_termOf_5 ?_
  refine xcVR C (c_X2_weightOf hK hW 11 (by decide) (by decide) hS) yk_X2_weightOf 2 rfl rfl xml_X3_51 ⟨⟨Nat.le_of_ble_eq_true rfl, Nat.le_of_ble_eq_true rfl⟩, ⟨rfl, rfl⟩, ⟨Nat.zero_le _, Nat.zero_le _⟩⟩ rfl (Nat.le_of_ble_eq_true rfl) dX3_termOf_8 ?_
  refine xlstore (lv' := [(4, .long (lN (woN K f))), (0, .ref (a 5)), (1, .int (nI w)), (2, .int (nI p)), (3, .int (nI q))]) C dX3_termOf_11 (by decide) rfl ?_
  refine xiload_n C 2 rfl dX3_termOf_13 ?_
  rcases (show w = 0 ∨ w = 1 ∨ w = 2 ∨ w = 3 by omega) with h14 | h14 | h14 | h14
  ·
    refine xtopi (y := nI 0) (by rw [h14]) ?_
    refine xtabIn C 40 dX3_termOf_14 (off := 26) (by decide +kernel) (by decide +kernel) (by decide +kernel) (by decide) ?_
    refine xlload C 0 rfl dX3_termOf_40 ?_
    refine xlconst (v := lN 0) C dX3_termOf_42 (by decide) ?_
    refine xlcmp_le C 51 dX3_termOf_43 dX3_termOf_44 (by decide) (Nat.lt_of_le_of_lt (woN_le hW hs f) (by decide)) (by decide) (fun h43 => ?_) (fun h43 => ?_)
    ·
      refine xlconst (v := lN 0) C dX3_termOf_51 (by decide) ?_
      exact xlret C hR dX3_termOf_52 (RPl (by subst h14; exact (bn_f (P := woN K f ≠ 0) (fun q => q (by omega))).symm))
    ·
      refine xlconst (v := lN 1) C dX3_termOf_47 (by decide) ?_
      refine xgoto C 52 dX3_termOf_48 (by decide) ?_
      exact xlret C hR dX3_termOf_52 (RPl (by subst h14; exact (bn_t (P := woN K f ≠ 0) (by omega)).symm))
  ·
    refine xtopi (y := nI 1) (by rw [h14]) ?_
    refine xtabIn C 53 dX3_termOf_14 (off := 39) (by decide +kernel) (by decide +kernel) (by decide +kernel) (by decide) ?_
    refine xlload C 0 rfl dX3_termOf_53 ?_
    exact xlret C hR dX3_termOf_55 (RPl (by subst h14; rfl))
  ·
    refine xtopi (y := nI 2) (by rw [h14]) ?_
    refine xtabIn C 56 dX3_termOf_14 (off := 42) (by decide +kernel) (by decide +kernel) (by decide +kernel) (by decide) ?_
    refine xlload C 0 rfl dX3_termOf_56 ?_
    refine xaload_n C 1 rfl dX3_termOf_58 ?_
    refine gX3_9 C dX3_termOf_59 ?_
    refine xiload_n C 3 rfl dX3_termOf_62 ?_
    refine xa_st C hW 11 (by decide) (by decide) hS p (by omega) dX3_termOf_63 ?_
    have fb63 := (hS p (by omega)).2
    refine xi2lN C (by omega) dX3_termOf_64 ?_
    refine xlmulN C dX3_termOf_65 ?_
    exact xlret C hR dX3_termOf_66 (RPl (by subst h14; rfl))
  ·
    refine xtopi (y := nI 3) (by rw [h14]) ?_
    refine xtabOut C 67 dX3_termOf_14 (by decide +kernel) (by decide) ?_
    refine xaload_n C 1 rfl dX3_termOf_67 ?_
    refine gX3_9 C dX3_termOf_68 ?_
    refine xiload_n C 3 rfl dX3_termOf_71 ?_
    refine xa_st C hW 11 (by decide) (by decide) hS p (by omega) dX3_termOf_72 ?_
    have fb72 := (hS p (by omega)).2
    refine xaload_n C 1 rfl dX3_termOf_73 ?_
    refine gX3_9 C dX3_termOf_74 ?_
    refine xiload_n C 4 rfl dX3_termOf_77 ?_
    refine xa_st C hW 11 (by decide) (by decide) hS q (by omega) dX3_termOf_78 ?_
    have fb78 := (hS q (by omega)).2
    refine xicmp_neN C 87 dX3_termOf_79 (by decide) (by omega) (by omega) (fun h79 => ?_) (fun h79 => ?_)
    ·
      refine xlconst (v := lN 0) C dX3_termOf_87 (by decide) ?_
      exact xlret C hR dX3_termOf_88 (RPl (by subst h14; exact (if_neg h79).symm))
    ·
      refine xlload C 0 rfl dX3_termOf_82 ?_
      refine xgoto C 88 dX3_termOf_84 (by decide) ?_
      exact xlret C hR dX3_termOf_88 (RPl (by subst h14; exact (if_pos h79).symm))
theorem dX3_stepOn_0 : decode cX3_stepOn 0 = .ok (.iconst 0, 1) := by decide +kernel
theorem dX3_stepOn_1 : decode cX3_stepOn 1 = .ok (.istore_n 1, 1) := by decide +kernel
theorem dX3_stepOn_2 : decode cX3_stepOn 2 = .ok (.iload_n 1, 1) := by decide +kernel
theorem dX3_stepOn_3 : decode cX3_stepOn 3 = .ok (.aload_n 0, 1) := by decide +kernel
theorem dX3_stepOn_4 : decode cX3_stepOn 4 = .ok (.getfield 15, 3) := by decide +kernel
theorem dX3_stepOn_7 : decode cX3_stepOn 7 = .ok (.getfield 35, 3) := by decide +kernel
theorem dX3_stepOn_10 : decode cX3_stepOn 10 = .ok (.if_icmp .ge 44, 3) := by decide +kernel
theorem dX3_stepOn_13 : decode cX3_stepOn 13 = .ok (.aload_n 0, 1) := by decide +kernel
theorem dX3_stepOn_14 : decode cX3_stepOn 14 = .ok (.getfield 9, 3) := by decide +kernel
theorem dX3_stepOn_17 : decode cX3_stepOn 17 = .ok (.iload_n 1, 1) := by decide +kernel
theorem dX3_stepOn_18 : decode cX3_stepOn 18 = .ok (.iaload, 1) := by decide +kernel
theorem dX3_stepOn_19 : decode cX3_stepOn 19 = .ok (.aload_n 0, 1) := by decide +kernel
theorem dX3_stepOn_20 : decode cX3_stepOn 20 = .ok (.getfield 19, 3) := by decide +kernel
theorem dX3_stepOn_23 : decode cX3_stepOn 23 = .ok (.iload_n 1, 1) := by decide +kernel
theorem dX3_stepOn_24 : decode cX3_stepOn 24 = .ok (.invokevirtual 38, 3) := by decide +kernel
theorem dX3_stepOn_27 : decode cX3_stepOn 27 = .ok (.if_icmp .ge 14, 3) := by decide +kernel
theorem dX3_stepOn_30 : decode cX3_stepOn 30 = .ok (.aload_n 0, 1) := by decide +kernel
theorem dX3_stepOn_31 : decode cX3_stepOn 31 = .ok (.getfield 9, 3) := by decide +kernel
theorem dX3_stepOn_34 : decode cX3_stepOn 34 = .ok (.iload_n 1, 1) := by decide +kernel
theorem dX3_stepOn_35 : decode cX3_stepOn 35 = .ok (.dup2, 1) := by decide +kernel
theorem dX3_stepOn_36 : decode cX3_stepOn 36 = .ok (.iaload, 1) := by decide +kernel
theorem dX3_stepOn_37 : decode cX3_stepOn 37 = .ok (.iconst 1, 1) := by decide +kernel
theorem dX3_stepOn_38 : decode cX3_stepOn 38 = .ok (.iadd, 1) := by decide +kernel
theorem dX3_stepOn_39 : decode cX3_stepOn 39 = .ok (.iastore, 1) := by decide +kernel
theorem dX3_stepOn_40 : decode cX3_stepOn 40 = .ok (.return_, 1) := by decide +kernel
theorem dX3_stepOn_41 : decode cX3_stepOn 41 = .ok (.aload_n 0, 1) := by decide +kernel
theorem dX3_stepOn_42 : decode cX3_stepOn 42 = .ok (.getfield 9, 3) := by decide +kernel
theorem dX3_stepOn_45 : decode cX3_stepOn 45 = .ok (.iload_n 1, 1) := by decide +kernel
theorem dX3_stepOn_46 : decode cX3_stepOn 46 = .ok (.iconst 0, 1) := by decide +kernel
theorem dX3_stepOn_47 : decode cX3_stepOn 47 = .ok (.iastore, 1) := by decide +kernel
theorem dX3_stepOn_48 : decode cX3_stepOn 48 = .ok (.iinc 1 1, 3) := by decide +kernel
theorem dX3_stepOn_51 : decode cX3_stepOn 51 = .ok (.goto (-49), 3) := by decide +kernel
theorem dX3_stepOn_54 : decode cX3_stepOn 54 = .ok (.return_, 1) := by decide +kernel
def rX3_stepOn : Room := { frames := 1, cells := 0, slots := 0, locals := 21 }
theorem yk_X3_stepOn : YK yX3_stepOn cX3_stepOn 2 none 0 := ⟨xim_X3_stepOn, xse_X3_stepOn, xin_X3, xco_X3_stepOn, by decide +kernel⟩
set_option maxRecDepth 4000 in
theorem c_X3_stepOn {l : Launch} {D : va_G} {t : Nat → ClassId} {a : Nat → Nat} {I : Nat → Int32} {F : Nat → Nat → Int32} {L : Nat → Int64} {K : Cfg} (hK : CFG K I F) (hW : WFK K) (i : Nat) (hS : RA (kn K) (F 11) (dgN K i)) : CT l D t yX3_stepOn cX3_stepOn 2 none rX3_stepOn 0 0 [.ref (a 5)] (WX a t I F L) (VP (fun w => ∃ F' : Nat → Nat → Int32, w = WX a t I F' L ∧ (∀ z, z ≠ 11 → F' z = F z) ∧ RA (kn K) (F' 11) (dgN K (i + 1)))) := by
  refine CT.of (by decide +kernel) (by simp [lg_sl, Value.category]) (fun X C hR => ?_)
  refine xlocals (lv' := [(0, .ref (a 5))]) rfl ?_
  have fn24 := hW.n24; have fm60 := hW.m60; have fk2 := hW.k2; have fu1 := hW.u1; have fu9 := hW.u9; have fv1 := hW.v1; have fv9 := hW.v9
  refine xiconst (v := nI 0) C dX3_stepOn_0 (by decide) ?_
  refine xistore_n (lv' := [(1, .int (nI 0)), (0, .ref (a 5))]) C dX3_stepOn_1 (by decide) rfl ?_
  have LP2 : ∀ (fu2 : Nat) (q : Nat) (FA : Nat → Nat → Int32) (hq : q ≤ kn K) (hm : (i + 1) % pr (gN K) q = 0) (hA : RA (kn K) (FA 11) (fun p => if p < q then 0 else dgN K i p)) (hXA : (∀ z, z ≠ 11 → FA z = F z)), kn K - q < fu2 → XW X 0 0 (WX a t I FA L) [(0, .ref (a 5)), (1, .int (nI q))] 2 [] := by
    intro fu2
    induction fu2 with
    | zero => intro q FA hq hm hA hXA hm2; exact absurd hm2 (Nat.not_lt_zero _)
    | succ fu2 ih2 =>
      intro q FA hq hm hA hXA hm2
      have hKA : CFG K I FA := hK.of (fun _ _ => rfl) (fun z hz => hXA z (by omega))
      have hgq : mostN K q + 1 = gN K q := rfl
      have hdl : dgN K i q < gN K q := Nat.mod_lt _ (Nat.succ_pos _)
      refine xiload_n C 1 rfl dX3_stepOn_2 ?_
      refine xaload_n C 0 rfl dX3_stepOn_3 ?_
      refine gX3_15 C dX3_stepOn_4 ?_
      refine gX3_35K C hKA dX3_stepOn_7 ?_
      refine xicmp_geN C 54 dX3_stepOn_10 (by decide) (by omega) (by omega) (fun h10 => ?_) (fun h10 => ?_)
      ·
        exact xvret C hR dX3_stepOn_54 (⟨rfl, FA, rfl, hXA, fun p hp => by rw [odo_zero hm (show p < q by omega)]; have h9 := hA p hp; dsimp only at h9; rw [if_pos (show p < q by omega)] at h9; exact h9⟩)
      ·
        refine xaload_n C 0 rfl dX3_stepOn_13 ?_
        refine gX3_9 C dX3_stepOn_14 ?_
        refine xiload_n C 1 rfl dX3_stepOn_17 ?_
        refine xa_st C hW 11 (by omega) (by omega) hA q (by omega) dX3_stepOn_18 ?_
        have fb18 := (hA q (by omega)).2
        refine xtopi (y := nI (dgN K i q)) (by rw [if_neg (Nat.lt_irrefl q)]) ?_
        dsimp only at fb18
        rw [if_neg (Nat.lt_irrefl q)] at fb18
        refine xaload_n C 0 rfl dX3_stepOn_19 ?_
        refine gX3_19 C dX3_stepOn_20 ?_
        refine xiload_n C 1 rfl dX3_stepOn_23 ?_
        refine xcVR C (c_X2_most hKA hW q (by omega)) yk_X2_most 2 rfl rfl xml_X3_38 ⟨⟨Nat.le_of_ble_eq_true rfl, Nat.le_of_ble_eq_true rfl⟩, ⟨rfl, rfl⟩, ⟨Nat.zero_le _, Nat.zero_le _⟩⟩ rfl (Nat.le_of_ble_eq_true rfl) dX3_stepOn_24 ?_
        have fm24 := mostN_le hW (show q < kn K by omega)
        refine xicmp_geN C 41 dX3_stepOn_27 (by decide) (by omega) (by omega) (fun h27 => ?_) (fun h27 => ?_)
        ·
          refine xaload_n C 0 rfl dX3_stepOn_41 ?_
          refine gX3_9 C dX3_stepOn_42 ?_
          refine xiload_n C 1 rfl dX3_stepOn_45 ?_
          refine xiconst (v := nI 0) C dX3_stepOn_46 (by decide) ?_
          refine xs_st C 11 (by omega) (by omega) q (by omega) dX3_stepOn_47 ?_
          obtain ⟨FB, eFB⟩ : ∃ z : Nat → Nat → Int32, z = va_up FA 11 (upd (FA 11) q (nI 0)) := ⟨_, rfl⟩
          refine xworld (ws' := WX a t I FB L) (by rw [eFB]) ?_
          refine xiincN (lv' := [(1, .int (nI (q + 1))), (0, .ref (a 5))]) C 1 rfl dX3_stepOn_48 (by decide) rfl ?_
          refine xgoto C 2 dX3_stepOn_51 (by decide) ?_
          refine xsub [1, 0] rfl ?_
          exact ih2 (q + 1) FB (by omega) (odo_mod hm (by omega)) (fun p hp => by rw [eFB, va_up_self]; exact odo_RA hA p hp) (fun z hz => by rw [eFB, va_up_ne _ _ hz]; exact hXA z hz) (by omega)
        ·
          refine xaload_n C 0 rfl dX3_stepOn_30 ?_
          refine gX3_9 C dX3_stepOn_31 ?_
          refine xiload_n C 1 rfl dX3_stepOn_34 ?_
          refine xdup2 C dX3_stepOn_35 rfl rfl ?_
          refine xa_st C hW 11 (by omega) (by omega) hA q (by omega) dX3_stepOn_36 ?_
          have fb36 := (hA q (by omega)).2
          refine xtopi (y := nI (dgN K i q)) (by rw [if_neg (Nat.lt_irrefl q)]) ?_
          refine xiconst (v := nI 1) C dX3_stepOn_37 (by decide) ?_
          refine xiaddN C dX3_stepOn_38 ?_
          refine xs_st C 11 (by omega) (by omega) q (by omega) dX3_stepOn_39 ?_
          obtain ⟨FB, eFB⟩ : ∃ z : Nat → Nat → Int32, z = va_up FA 11 (upd (FA 11) q (nI ((dgN K i q) + 1))) := ⟨_, rfl⟩
          refine xworld (ws' := WX a t I FB L) (by rw [eFB]) ?_
          exact xvret C hR dX3_stepOn_40 (⟨rfl, FB, rfl, fun z hz => by rw [eFB, va_up_ne _ _ hz]; exact hXA z hz, fun p hp => by rw [eFB, va_up_self]; exact odo_up hW hm hA (by omega) (by omega) p hp⟩)
  refine xsub [1, 0] rfl ?_
  exact LP2 _ 0 F (Nat.zero_le _) (Nat.mod_one _) (fun p hp => by dsimp only; rw [if_neg (Nat.not_lt_zero p)]; exact hS p hp) (fun _ _ => rfl) (Nat.lt_succ_self _)
theorem dX3_sumOf_0 : decode cX3_sumOf 0 = .ok (.iconst 0, 1) := by decide +kernel
theorem dX3_sumOf_1 : decode cX3_sumOf 1 = .ok (.istore 4, 2) := by decide +kernel
theorem dX3_sumOf_3 : decode cX3_sumOf 3 = .ok (.iload 4, 2) := by decide +kernel
theorem dX3_sumOf_5 : decode cX3_sumOf 5 = .ok (.bipush 24, 2) := by decide +kernel
theorem dX3_sumOf_7 : decode cX3_sumOf 7 = .ok (.if_icmp .ge 17, 3) := by decide +kernel
theorem dX3_sumOf_10 : decode cX3_sumOf 10 = .ok (.aload_n 0, 1) := by decide +kernel
theorem dX3_sumOf_11 : decode cX3_sumOf 11 = .ok (.getfield 9, 3) := by decide +kernel
theorem dX3_sumOf_14 : decode cX3_sumOf 14 = .ok (.iload 4, 2) := by decide +kernel
theorem dX3_sumOf_16 : decode cX3_sumOf 16 = .ok (.iconst 0, 1) := by decide +kernel
theorem dX3_sumOf_17 : decode cX3_sumOf 17 = .ok (.iastore, 1) := by decide +kernel
theorem dX3_sumOf_18 : decode cX3_sumOf 18 = .ok (.iinc 4 1, 3) := by decide +kernel
theorem dX3_sumOf_21 : decode cX3_sumOf 21 = .ok (.goto (-18), 3) := by decide +kernel
theorem dX3_sumOf_24 : decode cX3_sumOf 24 = .ok (.aload_n 0, 1) := by decide +kernel
theorem dX3_sumOf_25 : decode cX3_sumOf 25 = .ok (.invokevirtual 29, 3) := by decide +kernel
theorem dX3_sumOf_28 : decode cX3_sumOf 28 = .ok (.lstore 4, 2) := by decide +kernel
theorem dX3_sumOf_30 : decode cX3_sumOf 30 = .ok (.lconst 0, 1) := by decide +kernel
theorem dX3_sumOf_31 : decode cX3_sumOf 31 = .ok (.lstore 6, 2) := by decide +kernel
theorem dX3_sumOf_33 : decode cX3_sumOf 33 = .ok (.iconst 0, 1) := by decide +kernel
theorem dX3_sumOf_34 : decode cX3_sumOf 34 = .ok (.istore 8, 2) := by decide +kernel
theorem dX3_sumOf_36 : decode cX3_sumOf 36 = .ok (.iload 8, 2) := by decide +kernel
theorem dX3_sumOf_38 : decode cX3_sumOf 38 = .ok (.i2l, 1) := by decide +kernel
theorem dX3_sumOf_39 : decode cX3_sumOf 39 = .ok (.lload 4, 2) := by decide +kernel
theorem dX3_sumOf_41 : decode cX3_sumOf 41 = .ok (.lcmp, 1) := by decide +kernel
theorem dX3_sumOf_42 : decode cX3_sumOf 42 = .ok (.ifCond .ge 33, 3) := by decide +kernel
theorem dX3_sumOf_45 : decode cX3_sumOf 45 = .ok (.iload 8, 2) := by decide +kernel
theorem dX3_sumOf_47 : decode cX3_sumOf 47 = .ok (.sipush 5000, 3) := by decide +kernel
theorem dX3_sumOf_50 : decode cX3_sumOf 50 = .ok (.if_icmp .ge 25, 3) := by decide +kernel
theorem dX3_sumOf_53 : decode cX3_sumOf 53 = .ok (.lload 6, 2) := by decide +kernel
theorem dX3_sumOf_55 : decode cX3_sumOf 55 = .ok (.aload_n 0, 1) := by decide +kernel
theorem dX3_sumOf_56 : decode cX3_sumOf 56 = .ok (.iload_n 1, 1) := by decide +kernel
theorem dX3_sumOf_57 : decode cX3_sumOf 57 = .ok (.iload_n 2, 1) := by decide +kernel
theorem dX3_sumOf_58 : decode cX3_sumOf 58 = .ok (.iload_n 3, 1) := by decide +kernel
theorem dX3_sumOf_59 : decode cX3_sumOf 59 = .ok (.invokevirtual 44, 3) := by decide +kernel
theorem dX3_sumOf_62 : decode cX3_sumOf 62 = .ok (.ladd, 1) := by decide +kernel
theorem dX3_sumOf_63 : decode cX3_sumOf 63 = .ok (.lstore 6, 2) := by decide +kernel
theorem dX3_sumOf_65 : decode cX3_sumOf 65 = .ok (.aload_n 0, 1) := by decide +kernel
theorem dX3_sumOf_66 : decode cX3_sumOf 66 = .ok (.invokevirtual 48, 3) := by decide +kernel
theorem dX3_sumOf_69 : decode cX3_sumOf 69 = .ok (.iinc 8 1, 3) := by decide +kernel
theorem dX3_sumOf_72 : decode cX3_sumOf 72 = .ok (.goto (-36), 3) := by decide +kernel
theorem dX3_sumOf_75 : decode cX3_sumOf 75 = .ok (.lload 6, 2) := by decide +kernel
theorem dX3_sumOf_77 : decode cX3_sumOf 77 = .ok (.lreturn, 1) := by decide +kernel
def rX3_sumOf : Room := { frames := 4, cells := 0, slots := 0, locals := 92 }
theorem yk_X3_sumOf : YK yX3_sumOf cX3_sumOf 9 (some .long) 3 := ⟨xim_X3_sumOf, xse_X3_sumOf, xin_X3, xco_X3_sumOf, by decide +kernel⟩
set_option maxRecDepth 4000 in
theorem c_X3_sumOf {l : Launch} {D : va_G} {t : Nat → ClassId} {a : Nat → Nat} {I : Nat → Int32} {F : Nat → Nat → Int32} {L : Nat → Int64} {K : Cfg} (hK : CFG K I F) (hW : WFK K) (hs : smlP K) (w p q : Nat) (hw : w ≤ 3) (hp : p < kn K) (hq : q < kn K) : CT l D t yX3_sumOf cX3_sumOf 9 (some .long) rX3_sumOf 0 0 [.ref (a 5), .int (nI w), .int (nI p), .int (nI q)] (WX a t I F L) (EP (fun v w' => v = .long (lN (suN K w p q)) ∧ ∃ F' : Nat → Nat → Int32, w' = WX a t I F' L ∧ ∀ z, z ≠ 11 → F' z = F z)) := by
  refine CT.of (by decide +kernel) (by simp [lg_sl, Value.category]) (fun X C hR => ?_)
  refine xlocals (lv' := [(0, .ref (a 5)), (1, .int (nI w)), (2, .int (nI p)), (3, .int (nI q))]) rfl ?_
  have fn24 := hW.n24; have fm60 := hW.m60; have fk2 := hW.k2; have fu1 := hW.u1; have fu9 := hW.u9; have fv1 := hW.v1; have fv9 := hW.v9
  refine xiconst (v := nI 0) C dX3_sumOf_0 (by decide) ?_
  refine xistore (lv' := [(4, .int (nI 0)), (0, .ref (a 5)), (1, .int (nI w)), (2, .int (nI p)), (3, .int (nI q))]) C dX3_sumOf_1 (by decide) rfl ?_
  have LP3 : ∀ (fu3 : Nat) (i : Nat) (FA : Nat → Nat → Int32) (hi : i ≤ 24) (h0A : ∀ x, x < i → FA 11 x = nI 0) (hXA : (∀ z, z ≠ 11 → FA z = F z)), 24 - i < fu3 → XW X 0 0 (WX a t I FA L) [(0, .ref (a 5)), (1, .int (nI w)), (2, .int (nI p)), (3, .int (nI q)), (4, .int (nI i))] 3 [] := by
    intro fu3
    induction fu3 with
    | zero => intro i FA hi h0A hXA hm3; exact absurd hm3 (Nat.not_lt_zero _)
    | succ fu3 ih3 =>
      intro i FA hi h0A hXA hm3
      refine xiload C 4 rfl dX3_sumOf_3 ?_
      refine xbipush (v := nI 24) C dX3_sumOf_5 (by decide) ?_
      refine xicmp_geN C 24 dX3_sumOf_7 (by decide) (by omega) (by omega) (fun h7 => ?_) (fun h7 => ?_)
      ·
        have hKA : CFG K I FA := hK.of (fun _ _ => rfl) (fun z hz => hXA z (by omega))
        have hA0 : RA (kn K) (FA 11) (dgN K 0) := fun x hx => by rw [h0A x (by omega), show dgN K 0 x = 0 from by unfold dgN; rw [Nat.zero_div, Nat.zero_mod]]; exact ⟨rfl, by omega⟩
        refine xaload_n C 0 rfl dX3_sumOf_24 ?_
        refine xcVR C (c_X3_states hKA hW) yk_X3_states 5 rfl rfl xml_X3_29 ⟨⟨Nat.le_of_ble_eq_true rfl, Nat.le_of_ble_eq_true rfl⟩, ⟨rfl, rfl⟩, ⟨Nat.zero_le _, Nat.zero_le _⟩⟩ rfl (Nat.le_of_ble_eq_true rfl) dX3_sumOf_25 ?_
        refine xlstore (lv' := [(4, .long (lN (stN K))), (0, .ref (a 5)), (1, .int (nI w)), (2, .int (nI p)), (3, .int (nI q))]) C dX3_sumOf_28 (by decide) rfl ?_
        refine xlconst (v := lN 0) C dX3_sumOf_30 (by decide) ?_
        refine xlstore (lv' := [(6, .long (lN 0)), (4, .long (lN (stN K))), (0, .ref (a 5)), (1, .int (nI w)), (2, .int (nI p)), (3, .int (nI q))]) C dX3_sumOf_31 (by decide) rfl ?_
        refine xiconst (v := nI 0) C dX3_sumOf_33 (by decide) ?_
        refine xistore (lv' := [(8, .int (nI 0)), (6, .long (lN 0)), (4, .long (lN (stN K))), (0, .ref (a 5)), (1, .int (nI w)), (2, .int (nI p)), (3, .int (nI q))]) C dX3_sumOf_34 (by decide) rfl ?_
        have LP36 : ∀ (fu36 : Nat) (x : Nat) (FB : Nat → Nat → Int32) (hx : x ≤ stN K) (hB : RA (kn K) (FB 11) (dgN K x)) (hXB : (∀ z, z ≠ 11 → FB z = F z)), stN K - x < fu36 → XW X 0 0 (WX a t I FB L) [(0, .ref (a 5)), (1, .int (nI w)), (2, .int (nI p)), (3, .int (nI q)), (4, .long (lN (stN K))), (6, .long (lN (sm (fun i => trN K w p q (dgN K i)) x))), (8, .int (nI x))] 36 [] := by
          intro fu36
          induction fu36 with
          | zero => intro x FB hx hB hXB hm36; exact absurd hm36 (Nat.not_lt_zero _)
          | succ fu36 ih36 =>
            intro x FB hx hB hXB hm36
            have hKB : CFG K I FB := hK.of (fun _ _ => rfl) (fun z hz => hXB z (by omega))
            have h5k := hs.2
            refine xiload C 6 rfl dX3_sumOf_36 ?_
            refine xi2lN C (by have := hs.2; omega) dX3_sumOf_38 ?_
            refine xlload C 4 rfl dX3_sumOf_39 ?_
            refine xlcmp_ge C 75 dX3_sumOf_41 dX3_sumOf_42 (by decide) (by omega) (by omega) (fun h41 => ?_) (fun h41 => ?_)
            ·
              refine xlload C 5 rfl dX3_sumOf_75 ?_
              exact xlret C hR dX3_sumOf_77 (⟨_, rfl, by (have e : x = stN K := (by omega)); subst e; rfl, FB, rfl, hXB⟩)
            ·
              refine xiload C 6 rfl dX3_sumOf_45 ?_
              refine xsipush (v := nI 5000) C dX3_sumOf_47 (by decide) ?_
              refine xicmp_geN C 75 dX3_sumOf_50 (by decide) (by omega) (by omega) (fun h50 => ?_) (fun h50 => ?_)
              · exact absurd h50 (by omega)
              ·
                refine xlload C 5 rfl dX3_sumOf_53 ?_
                refine xaload_n C 0 rfl dX3_sumOf_55 ?_
                refine xiload_n C 1 rfl dX3_sumOf_56 ?_
                refine xiload_n C 2 rfl dX3_sumOf_57 ?_
                refine xiload_n C 3 rfl dX3_sumOf_58 ?_
                refine xcVR C (c_X3_termOf hKB hW hB hs w p q (by omega) (by omega) (by omega)) yk_X3_termOf 5 rfl rfl xml_X3_44 ⟨⟨Nat.le_of_ble_eq_true rfl, Nat.le_of_ble_eq_true rfl⟩, ⟨rfl, rfl⟩, ⟨Nat.zero_le _, Nat.zero_le _⟩⟩ rfl (Nat.le_of_ble_eq_true rfl) dX3_sumOf_59 ?_
                refine xladdN C dX3_sumOf_62 ?_
                refine xtopl (y := lN (sm (fun i => trN K w p q (dgN K i)) (x + 1))) (rfl) ?_
                refine xlstore (lv' := [(6, .long (lN (sm (fun i => trN K w p q (dgN K i)) (x + 1)))), (0, .ref (a 5)), (1, .int (nI w)), (2, .int (nI p)), (3, .int (nI q)), (4, .long (lN (stN K))), (8, .int (nI x))]) C dX3_sumOf_63 (by decide) rfl ?_
                refine xaload_n C 1 rfl dX3_sumOf_65 ?_
                refine xcVV C (c_X3_stepOn hKB hW x hB) yk_X3_stepOn 5 rfl rfl xml_X3_48 ⟨⟨Nat.le_of_ble_eq_true rfl, Nat.le_of_ble_eq_true rfl⟩, ⟨rfl, rfl⟩, ⟨Nat.zero_le _, Nat.zero_le _⟩⟩ rfl (Nat.le_of_ble_eq_true rfl) dX3_sumOf_66 (fun wE hE => ?_)
                obtain ⟨FC, rfl, hXc, hC⟩ := hE
                have hXC : (∀ z, z ≠ 11 → FC z = F z) := fun z hz => (hXc z hz).trans (hXB z hz)
                refine xiincN (lv' := [(8, .int (nI (x + 1))), (6, .long (lN (sm (fun i => trN K w p q (dgN K i)) (x + 1)))), (0, .ref (a 5)), (1, .int (nI w)), (2, .int (nI p)), (3, .int (nI q)), (4, .long (lN (stN K)))]) C 6 rfl dX3_sumOf_69 (by decide) rfl ?_
                refine xgoto C 36 dX3_sumOf_72 (by decide) ?_
                refine xsub [2, 3, 4, 5, 6, 1, 0] rfl ?_
                exact ih36 (x + 1) FC (by omega) hC hXC (by omega)
        refine xsub [3, 4, 5, 6, 2, 1, 0] rfl ?_
        exact LP36 _ 0 FA (Nat.zero_le _) hA0 hXA (Nat.lt_succ_self _)
      ·
        refine xaload_n C 0 rfl dX3_sumOf_10 ?_
        refine gX3_9 C dX3_sumOf_11 ?_
        refine xiload C 4 rfl dX3_sumOf_14 ?_
        refine xiconst (v := nI 0) C dX3_sumOf_16 (by decide) ?_
        refine xs_st C 11 (by omega) (by omega) i (by omega) dX3_sumOf_17 ?_
        obtain ⟨FB, eFB⟩ : ∃ z : Nat → Nat → Int32, z = va_up FA 11 (upd (FA 11) i (nI 0)) := ⟨_, rfl⟩
        refine xworld (ws' := WX a t I FB L) (by rw [eFB]) ?_
        refine xiincN (lv' := [(4, .int (nI (i + 1))), (0, .ref (a 5)), (1, .int (nI w)), (2, .int (nI p)), (3, .int (nI q))]) C 4 rfl dX3_sumOf_18 (by decide) rfl ?_
        refine xgoto C 3 dX3_sumOf_21 (by decide) ?_
        refine xsub [1, 2, 3, 4, 0] rfl ?_
        exact ih3 (i + 1) FB (by omega) (fun x hx => by rw [eFB, va_up_self]; unfold upd; by_cases e : x = i; (rw [if_pos e]); (rw [if_neg e]; exact h0A x (by omega))) (fun z hz => by rw [eFB, va_up_ne _ _ hz]; exact hXA z hz) (by omega)
  refine xsub [1, 2, 3, 4, 0] rfl ?_
  exact LP3 _ 0 F (by omega) (fun x h => absurd h (Nat.not_lt_zero _)) (fun _ _ => rfl) (Nat.lt_succ_self _)
theorem dX3_commonDivisor_0 : decode cX3_commonDivisor 0 = .ok (.iconst 0, 1) := by decide +kernel
theorem dX3_commonDivisor_1 : decode cX3_commonDivisor 1 = .ok (.istore 4, 2) := by decide +kernel
theorem dX3_commonDivisor_3 : decode cX3_commonDivisor 3 = .ok (.iload 4, 2) := by decide +kernel
theorem dX3_commonDivisor_5 : decode cX3_commonDivisor 5 = .ok (.bipush 100, 2) := by decide +kernel
theorem dX3_commonDivisor_7 : decode cX3_commonDivisor 7 = .ok (.if_icmp .ge 25, 3) := by decide +kernel
theorem dX3_commonDivisor_10 : decode cX3_commonDivisor 10 = .ok (.lload_n 2, 1) := by decide +kernel
theorem dX3_commonDivisor_11 : decode cX3_commonDivisor 11 = .ok (.lconst 0, 1) := by decide +kernel
theorem dX3_commonDivisor_12 : decode cX3_commonDivisor 12 = .ok (.lcmp, 1) := by decide +kernel
theorem dX3_commonDivisor_13 : decode cX3_commonDivisor 13 = .ok (.ifCond .eq 19, 3) := by decide +kernel
theorem dX3_commonDivisor_16 : decode cX3_commonDivisor 16 = .ok (.lload_n 0, 1) := by decide +kernel
theorem dX3_commonDivisor_17 : decode cX3_commonDivisor 17 = .ok (.lload_n 2, 1) := by decide +kernel
theorem dX3_commonDivisor_18 : decode cX3_commonDivisor 18 = .ok (.lrem, 1) := by decide +kernel
theorem dX3_commonDivisor_19 : decode cX3_commonDivisor 19 = .ok (.lstore 5, 2) := by decide +kernel
theorem dX3_commonDivisor_21 : decode cX3_commonDivisor 21 = .ok (.lload_n 2, 1) := by decide +kernel
theorem dX3_commonDivisor_22 : decode cX3_commonDivisor 22 = .ok (.lstore_n 0, 1) := by decide +kernel
theorem dX3_commonDivisor_23 : decode cX3_commonDivisor 23 = .ok (.lload 5, 2) := by decide +kernel
theorem dX3_commonDivisor_25 : decode cX3_commonDivisor 25 = .ok (.lstore_n 2, 1) := by decide +kernel
theorem dX3_commonDivisor_26 : decode cX3_commonDivisor 26 = .ok (.iinc 4 1, 3) := by decide +kernel
theorem dX3_commonDivisor_29 : decode cX3_commonDivisor 29 = .ok (.goto (-26), 3) := by decide +kernel
theorem dX3_commonDivisor_32 : decode cX3_commonDivisor 32 = .ok (.lload_n 0, 1) := by decide +kernel
theorem dX3_commonDivisor_33 : decode cX3_commonDivisor 33 = .ok (.lreturn, 1) := by decide +kernel
def rX3_commonDivisor : Room := { frames := 0, cells := 0, slots := 0, locals := 0 }
theorem sk_X3_commonDivisor : SK yX3_commonDivisor cX3_commonDivisor 7 (some .long) 2 := ⟨xst_X3_commonDivisor, xin_X3, xco_X3_commonDivisor, by decide +kernel⟩
set_option maxRecDepth 4000 in
theorem c_X3_commonDivisor {l : Launch} {D : va_G} {t : Nat → ClassId} {a : Nat → Nat} {I : Nat → Int32} {F : Nat → Nat → Int32} {L : Nat → Int64} (u v : Nat) (hu : u < 2 ^ 62) (hv : v < 2 ^ 62) : CT l D t yX3_commonDivisor cX3_commonDivisor 7 (some .long) rX3_commonDivisor 0 0 [.long (lN u), .long (lN v)] (WX a t I F L) (RP (.long (lN (Nat.gcd u v))) (WX a t I F L)) := by
  refine CT.of (by decide +kernel) (by simp [lg_sl, Value.category]) (fun X C hR => ?_)
  refine xlocals (lv' := [(0, .long (lN u)), (2, .long (lN v))]) rfl ?_
  refine xiconst (v := nI 0) C dX3_commonDivisor_0 (by decide) ?_
  refine xistore (lv' := [(4, .int (nI 0)), (0, .long (lN u)), (2, .long (lN v))]) C dX3_commonDivisor_1 (by decide) rfl ?_
  have LP3 : ∀ (fu3 : Nat) (i : Nat) (x : Nat) (y : Nat) (hi : i ≤ 100) (hg : Nat.gcd x y = Nat.gcd u v) (hxb : x < 2 ^ 62) (hyb : y < 2 ^ 62) (hE : i = 0 ∨ (y < x ∧ (x < fb (102 - i) ∨ y < fb (101 - i)))), 100 - i < fu3 → XW X 0 0 (WX a t I F L) [(0, .long (lN x)), (2, .long (lN y)), (4, .int (nI i))] 3 [] := by
    intro fu3
    induction fu3 with
    | zero => intro i x y hi hg hxb hyb hE hm3; exact absurd hm3 (Nat.not_lt_zero _)
    | succ fu3 ih3 =>
      intro i x y hi hg hxb hyb hE hm3
      refine xiload C 2 rfl dX3_commonDivisor_3 ?_
      refine xbipush (v := nI 100) C dX3_commonDivisor_5 (by decide) ?_
      refine xicmp_geN C 32 dX3_commonDivisor_7 (by decide) (by omega) (by omega) (fun h7 => ?_) (fun h7 => ?_)
      ·
        refine xlload_n C 0 rfl dX3_commonDivisor_32 ?_
        exact xlret C hR dX3_commonDivisor_33 (RPl (eu_end hg (eu_zero (by omega) hE)))
      ·
        refine xlload_n C 1 rfl dX3_commonDivisor_10 ?_
        refine xlconst (v := lN 0) C dX3_commonDivisor_11 (by decide) ?_
        refine xlcmp_eq C 32 dX3_commonDivisor_12 dX3_commonDivisor_13 (by decide) (by omega) (by decide) (fun h12 => ?_) (fun h12 => ?_)
        ·
          refine xlload_n C 0 rfl dX3_commonDivisor_32 ?_
          exact xlret C hR dX3_commonDivisor_33 (RPl (eu_end hg h12))
        ·
          refine xlload_n C 0 rfl dX3_commonDivisor_16 ?_
          refine xlload_n C 1 rfl dX3_commonDivisor_17 ?_
          refine xlrem C dX3_commonDivisor_18 (fun e => h12 ((pk_lEQ (by omega) (by decide)).mp e)) ?_
          refine xtopl (y := lN (x % y)) (pk_lRem (by omega) (by omega) (by omega)) ?_
          refine xlstore (lv' := [(5, .long (lN (x % y))), (0, .long (lN x)), (2, .long (lN y)), (4, .int (nI i))]) C dX3_commonDivisor_19 (by decide) rfl ?_
          refine xlload_n C 2 rfl dX3_commonDivisor_21 ?_
          refine xlstore_n (lv' := [(0, .long (lN y)), (5, .long (lN (x % y))), (2, .long (lN y)), (4, .int (nI i))]) C dX3_commonDivisor_22 (by decide) rfl ?_
          refine xlload C 1 rfl dX3_commonDivisor_23 ?_
          refine xlstore_n (lv' := [(2, .long (lN (x % y))), (0, .long (lN y)), (5, .long (lN (x % y))), (4, .int (nI i))]) C dX3_commonDivisor_25 (by decide) rfl ?_
          refine xiincN (lv' := [(4, .int (nI (i + 1))), (2, .long (lN (x % y))), (0, .long (lN y)), (5, .long (lN (x % y)))]) C 3 rfl dX3_commonDivisor_26 (by decide) rfl ?_
          refine xgoto C 3 dX3_commonDivisor_29 (by decide) ?_
          refine xsub [2, 1, 0] rfl ?_
          exact ih3 (i + 1) y (x % y) (by omega) (by rw [← hg, Nat.gcd_comm x y, Nat.gcd_rec y x, Nat.gcd_comm]) hyb (Nat.lt_of_lt_of_le (Nat.mod_lt _ (by omega)) (by omega)) (Or.inr (eu_step (by omega) (by omega) hyb hE)) (by omega)
  refine xsub [1, 2, 0] rfl ?_
  exact LP3 _ 0 u v (by omega) rfl hu hv (Or.inl rfl) (Nat.lt_succ_self _)
theorem dX3_share_0 : decode cX3_share 0 = .ok (.aload_n 0, 1) := by decide +kernel
theorem dX3_share_1 : decode cX3_share 1 = .ok (.iconst 1, 1) := by decide +kernel
theorem dX3_share_2 : decode cX3_share 2 = .ok (.iconst 0, 1) := by decide +kernel
theorem dX3_share_3 : decode cX3_share 3 = .ok (.iconst 0, 1) := by decide +kernel
theorem dX3_share_4 : decode cX3_share 4 = .ok (.invokevirtual 55, 3) := by decide +kernel
theorem dX3_share_7 : decode cX3_share 7 = .ok (.lstore 4, 2) := by decide +kernel
theorem dX3_share_9 : decode cX3_share 9 = .ok (.lload_n 1, 1) := by decide +kernel
theorem dX3_share_10 : decode cX3_share 10 = .ok (.lload 4, 2) := by decide +kernel
theorem dX3_share_12 : decode cX3_share 12 = .ok (.invokestatic 58, 3) := by decide +kernel
theorem dX3_share_15 : decode cX3_share 15 = .ok (.lstore 6, 2) := by decide +kernel
theorem dX3_share_17 : decode cX3_share 17 = .ok (.lload 6, 2) := by decide +kernel
theorem dX3_share_19 : decode cX3_share 19 = .ok (.lconst 1, 1) := by decide +kernel
theorem dX3_share_20 : decode cX3_share 20 = .ok (.lcmp, 1) := by decide +kernel
theorem dX3_share_21 : decode cX3_share 21 = .ok (.ifCond .ge 6, 3) := by decide +kernel
theorem dX3_share_27 : decode cX3_share 27 = .ok (.iload_n 3, 1) := by decide +kernel
theorem dX3_share_28 : decode cX3_share 28 = .ok (.ifCond .ne 7, 3) := by decide +kernel
theorem dX3_share_31 : decode cX3_share 31 = .ok (.lload_n 1, 1) := by decide +kernel
theorem dX3_share_32 : decode cX3_share 32 = .ok (.goto 5, 3) := by decide +kernel
theorem dX3_share_35 : decode cX3_share 35 = .ok (.lload 4, 2) := by decide +kernel
theorem dX3_share_37 : decode cX3_share 37 = .ok (.lload 6, 2) := by decide +kernel
theorem dX3_share_39 : decode cX3_share 39 = .ok (.ldiv, 1) := by decide +kernel
theorem dX3_share_40 : decode cX3_share 40 = .ok (.lreturn, 1) := by decide +kernel
def rX3_share : Room := { frames := 5, cells := 0, slots := 0, locals := 120 }
theorem yk_X3_share : YK yX3_share cX3_share 8 (some .long) 2 := ⟨xim_X3_share, xse_X3_share, xin_X3, xco_X3_share, by decide +kernel⟩
set_option maxRecDepth 4000 in
theorem c_X3_share {l : Launch} {D : va_G} {t : Nat → ClassId} {a : Nat → Nat} {I : Nat → Int32} {F : Nat → Nat → Int32} {L : Nat → Int64} {K : Cfg} (hK : CFG K I F) (hW : WFK K) (hs : smlP K) (hn : 0 < kn K) (hpos : 0 < suN K 1 0 0) (A what : Nat) (hA : A < 2 ^ 62) (hw : what ≤ 1) : CT l D t yX3_share cX3_share 8 (some .long) rX3_share 0 0 [.ref (a 5), .long (lN A), .int (nI what)] (WX a t I F L) (EP (fun v w' => v = .long (lN ((if what = 0 then A else suN K 1 0 0) / Nat.gcd A (suN K 1 0 0))) ∧ ∃ F' : Nat → Nat → Int32, w' = WX a t I F' L ∧ ∀ z, z ≠ 11 → F' z = F z)) := by
  refine CT.of (by decide +kernel) (by simp [lg_sl, Value.category]) (fun X C hR => ?_)
  refine xlocals (lv' := [(0, .ref (a 5)), (1, .long (lN A)), (3, .int (nI what))]) rfl ?_
  have fn24 := hW.n24; have fm60 := hW.m60; have fk2 := hW.k2; have fu1 := hW.u1; have fu9 := hW.u9; have fv1 := hW.v1; have fv9 := hW.v9
  refine xaload_n C 0 rfl dX3_share_0 ?_
  refine xiconst (v := nI 1) C dX3_share_1 (by decide) ?_
  refine xiconst (v := nI 0) C dX3_share_2 (by decide) ?_
  refine xiconst (v := nI 0) C dX3_share_3 (by decide) ?_
  refine xcVE C (c_X3_sumOf hK hW hs 1 0 0 (by omega) (by omega) (by omega)) yk_X3_sumOf 5 rfl rfl xml_X3_55 ⟨⟨Nat.le_of_ble_eq_true rfl, Nat.le_of_ble_eq_true rfl⟩, ⟨rfl, rfl⟩, ⟨Nat.zero_le _, Nat.zero_le _⟩⟩ rfl (Nat.le_of_ble_eq_true rfl) dX3_share_4 (fun vE wE hE => ?_)
  obtain ⟨rfl, FA, rfl, hXA⟩ := hE
  refine xlstore (lv' := [(4, .long (lN (suN K 1 0 0))), (0, .ref (a 5)), (1, .long (lN A)), (3, .int (nI what))]) C dX3_share_7 (by decide) rfl ?_
  refine xlload_n C 2 rfl dX3_share_9 ?_
  refine xlload C 0 rfl dX3_share_10 ?_
  have hWb : suN K 1 0 0 < 2 ^ 62 := suN_lt hW hs 1 0 hn
  have hgp : 0 < Nat.gcd A (suN K 1 0 0) := Nat.gcd_pos_of_pos_right _ hpos
  have hgl : Nat.gcd A (suN K 1 0 0) ≤ suN K 1 0 0 := Nat.gcd_le_right _ hpos
  refine xcSR C (c_X3_commonDivisor A (suN K 1 0 0) (by omega) (by omega)) sk_X3_commonDivisor xml_X3_58 ⟨⟨Nat.le_of_ble_eq_true rfl, Nat.le_of_ble_eq_true rfl⟩, ⟨rfl, rfl⟩, ⟨Nat.zero_le _, Nat.zero_le _⟩⟩ rfl (Nat.le_of_ble_eq_true rfl) dX3_share_12 ?_
  refine xlstore (lv' := [(6, .long (lN (Nat.gcd A (suN K 1 0 0)))), (4, .long (lN (suN K 1 0 0))), (0, .ref (a 5)), (1, .long (lN A)), (3, .int (nI what))]) C dX3_share_15 (by decide) rfl ?_
  refine xlload C 0 rfl dX3_share_17 ?_
  refine xlconst (v := lN 1) C dX3_share_19 (by decide) ?_
  refine xlcmp_ge C 27 dX3_share_20 dX3_share_21 (by decide) (by omega) (by decide) (fun h20 => ?_) (fun h20 => ?_)
  ·
    refine xiload_n C 4 rfl dX3_share_27 ?_
    refine xif_neN C 35 dX3_share_28 (by decide) (by omega) (fun h28 => ?_) (fun h28 => ?_)
    ·
      refine xlload C 1 rfl dX3_share_35 ?_
      refine xlload C 0 rfl dX3_share_37 ?_
      refine xldiv C dX3_share_39 (fun e => absurd ((pk_lEQ (by omega) (by decide)).mp e) (show ¬ Nat.gcd A (suN K 1 0 0) = 0 by omega)) ?_
      refine xtopl (y := lN ((if what = 0 then A else suN K 1 0 0) / Nat.gcd A (suN K 1 0 0))) (by rw [if_neg h28]; exact pk_lDiv (by omega) hgp (by omega)) ?_
      exact xlret C hR dX3_share_40 (⟨_, rfl, rfl, FA, rfl, hXA⟩)
    ·
      refine xlload_n C 3 rfl dX3_share_31 ?_
      refine xgoto C 37 dX3_share_32 (by decide) ?_
      refine xlload C 0 rfl dX3_share_37 ?_
      refine xldiv C dX3_share_39 (fun e => absurd ((pk_lEQ (by omega) (by decide)).mp e) (show ¬ Nat.gcd A (suN K 1 0 0) = 0 by omega)) ?_
      refine xtopl (y := lN ((if what = 0 then A else suN K 1 0 0) / Nat.gcd A (suN K 1 0 0))) (by rw [if_pos h28]; exact pk_lDiv (by omega) hgp (by omega)) ?_
      exact xlret C hR dX3_share_40 (⟨_, rfl, rfl, FA, rfl, hXA⟩)
  · exact absurd h20 (by omega)
