/-! HEIGHTS: rounds over the links reach what drawing until nothing changes reaches. -/
def lnkP (K : Cfg) (f : Nat → Nat) (k : Nat) : Prop := f (kla K k) ≤ f (klb K k) + 1 ∧ f (klb K k) ≤ f (kla K k) + 1
def feasP (K : Cfg) (f : Nat → Nat) : Prop := ∀ k, k < km K → lnkP K f k
def adjP (K : Cfg) (p q : Nat) : Prop := ∃ k, k < km K ∧ ((kla K k = p ∧ klb K k = q) ∨ (kla K k = q ∧ klb K k = p))
theorem cn_mono {P Q : Nat → Prop} : ∀ {k : Nat}, (∀ j, j < k → P j → Q j) → cn P k ≤ cn Q k
  | 0, _ => Nat.le_refl _
  | k + 1, h => by
    show cn P k + bn (P k) ≤ cn Q k + bn (Q k)
    have h1 := cn_mono (k := k) (fun j hj => h j (by omega))
    have h2 : bn (P k) ≤ bn (Q k) := by
      rcases Classical.em (P k) with q | q
      · rw [bn_t q, bn_t (h k (by omega) q)]; omega
      · rw [bn_f q]; omega
    omega
theorem cn_strict {P Q : Nat → Prop} : ∀ {k : Nat}, (∀ j, j < k → P j → Q j) → ∀ j, j < k → Q j → ¬ P j → cn P k < cn Q k
  | 0, _, j, hj, _, _ => by omega
  | k + 1, h, j, hj, hq, hp => by
    show cn P k + bn (P k) < cn Q k + bn (Q k)
    by_cases e : j = k
    · subst e
      have h1 := cn_mono (k := j) (fun i hi => h i (by omega))
      rw [bn_f hp, bn_t hq]; omega
    · have h1 := cn_strict (k := k) (fun i hi => h i (by omega)) j (by omega) hq hp
      have h2 : bn (P k) ≤ bn (Q k) := by
        rcases Classical.em (P k) with q | q
        · rw [bn_t q, bn_t (h k (by omega) q)]; omega
        · rw [bn_f q]; omega
      omega
theorem cn_full {P : Nat → Prop} {k : Nat} (h : k ≤ cn P k) : ∀ j, j < k → P j := by
  intro j hj
  rcases Classical.em (P j) with q | q
  · exact q
  · have h1 := cn_strict (P := P) (Q := fun _ => True) (k := k) (fun _ _ _ => trivial) j hj trivial q
    have h2 := cn_le (fun _ => True) k
    omega
theorem ex_min {P : Nat → Prop} (μ : Nat → Nat) : ∀ (c p : Nat), μ p ≤ c → P p → ∃ p, P p ∧ ∀ q, P q → μ p ≤ μ q
  | 0, p, hc, hp => ⟨p, hp, fun q _ => by omega⟩
  | c + 1, p, hc, hp => by
    rcases Classical.em (∃ q, P q ∧ μ q < μ p) with ⟨q, h1, h2⟩ | h
    · exact ex_min μ c q (by omega) h1
    · exact ⟨p, hp, fun q hq => by
        rcases Nat.lt_or_ge (μ q) (μ p) with h2 | h2
        · exact absurd ⟨q, hq, h2⟩ h
        · exact h2⟩
-- from above
theorem rlH_b {K : Cfg} {f : Nat → Nat} {k : Nat} (h : klb K k ≠ kla K k) : rlH K f k (klb K k) = min (f (klb K k)) (min (f (kla K k)) (f (klb K k) + 1) + 1) := by unfold rlH; rw [va_up_self, va_up_ne _ _ h, va_up_self]
theorem rlH_la {K : Cfg} {f : Nat → Nat} {k : Nat} (h : kla K k ≠ klb K k) : rlH K f k (kla K k) = min (f (kla K k)) (f (klb K k) + 1) := by unfold rlH; rw [va_up_ne _ _ h, va_up_self]
theorem rlH_o {K : Cfg} {f : Nat → Nat} {k p : Nat} (h1 : p ≠ klb K k) (h2 : p ≠ kla K k) : rlH K f k p = f p := by unfold rlH; rw [va_up_ne _ _ h1, va_up_ne _ _ h2]
theorem rlH_e {K : Cfg} {f : Nat → Nat} {k : Nat} (h : klb K k = kla K k) : rlH K f k (kla K k) = f (kla K k) := by unfold rlH; rw [h, va_up_self, va_up_self]; omega
theorem rlH_le (K : Cfg) (f : Nat → Nat) (k p : Nat) : rlH K f k p ≤ f p := by
  by_cases e : klb K k = kla K k
  · by_cases e2 : p = kla K k
    · subst e2; rw [rlH_e e]; exact Nat.le_refl _
    · rw [rlH_o (by rw [e]; exact e2) e2]; exact Nat.le_refl _
  · by_cases e2 : p = klb K k
    · subst e2; rw [rlH_b e]; omega
    · by_cases e3 : p = kla K k
      · subst e3; rw [rlH_la (fun q => e q.symm)]; omega
      · rw [rlH_o e2 e3]; exact Nat.le_refl _
theorem rlH_a (K : Cfg) (f : Nat → Nat) (k : Nat) : rlH K f k (kla K k) ≤ f (klb K k) + 1 ∧ rlH K f k (klb K k) ≤ f (kla K k) + 1 := by
  by_cases e : klb K k = kla K k
  · have := rlH_e (f := f) e
    rw [e, this]; omega
  · rw [rlH_b e, rlH_la (fun q => e q.symm)]; omega
theorem rlH_ge {K : Cfg} {f g : Nat → Nat} {k : Nat} (hk : lnkP K f k) (h : ∀ p, f p ≤ g p) (p : Nat) : f p ≤ rlH K g k p := by
  have h1 := h (kla K k); have h2 := h (klb K k); have h3 := h p
  obtain ⟨h4, h5⟩ := hk
  by_cases e : klb K k = kla K k
  · by_cases e2 : p = kla K k
    · subst e2; rw [rlH_e e]; exact h3
    · rw [rlH_o (by rw [e]; exact e2) e2]; exact h3
  · by_cases e2 : p = klb K k
    · subst e2; rw [rlH_b e]; omega
    · by_cases e3 : p = kla K k
      · subst e3; rw [rlH_la (fun q => e q.symm)]; omega
      · rw [rlH_o e2 e3]; exact h3
theorem rdH_le (K : Cfg) (f : Nat → Nat) : ∀ k p, rdH K f k p ≤ f p
  | 0, p => Nat.le_refl _
  | k + 1, p => Nat.le_trans (rlH_le K _ k p) (rdH_le K f k p)
theorem rdH_anti (K : Cfg) (f : Nat → Nat) {i : Nat} : ∀ {k : Nat}, i ≤ k → ∀ p, rdH K f k p ≤ rdH K f i p
  | 0, h, p => by obtain rfl : i = 0 := by omega
                  exact Nat.le_refl _
  | k + 1, h, p => by
    by_cases e : i = k + 1
    · subst e; exact Nat.le_refl _
    · exact Nat.le_trans (rlH_le K _ k p) (rdH_anti K f (show i ≤ k by omega) p)
theorem rdH_ge {K : Cfg} {f g : Nat → Nat} : ∀ {k : Nat}, (∀ x, x < k → lnkP K f x) → (∀ p, f p ≤ g p) → ∀ p, f p ≤ rdH K g k p
  | 0, _, h, p => h p
  | k + 1, hk, h, p => rlH_ge (hk k (by omega)) (rdH_ge (fun x hx => hk x (by omega)) h) p
theorem rdH_adj {K : Cfg} {g : Nat → Nat} {p q : Nat} (h : adjP K p q) : rdH K g (km K) p ≤ g q + 1 := by
  obtain ⟨k, hk, h⟩ := h
  have h1 := rdH_anti K g (show k + 1 ≤ km K by omega) p
  have h2 : rdH K g (k + 1) p ≤ g q + 1 := by
    have h3 := rdH_le K g k q
    show rlH K (rdH K g k) k p ≤ g q + 1
    rcases h with ⟨e1, e2⟩ | ⟨e1, e2⟩
    · have := (rlH_a K (rdH K g k) k).1
      rw [e1, e2] at this
      omega
    · have := (rlH_a K (rdH K g k) k).2
      rw [e1, e2] at this
      omega
  omega
theorem rrH_le (K : Cfg) (f : Nat → Nat) : ∀ r p, rrH K f r p ≤ f p
  | 0, p => Nat.le_refl _
  | r + 1, p => Nat.le_trans (rdH_le K _ _ p) (rrH_le K f r p)
theorem rrH_ge {K : Cfg} {f g : Nat → Nat} (hf : feasP K f) (h : ∀ p, f p ≤ g p) : ∀ r p, f p ≤ rrH K g r p
  | 0, p => h p
  | r + 1, p => rdH_ge (fun x hx => hf x hx) (rrH_ge hf h r) p
/-- a state with no link left to draw, each number held up by the start or by a neighbour's, is what the rounds reach -/
theorem fix_high {K : Cfg} {f g : Nat → Nat} (hf : feasP K f) (ha : ∀ p, f p ≤ g p) (hb : ∀ p, p < kn K → f p = g p ∨ ∃ q, q < kn K ∧ adjP K p q ∧ f q + 1 ≤ f p) : ∀ p, p < kn K → rrH K g (kn K) p = f p := by
  have hge := rrH_ge hf ha
  have key : ∀ r, r ≤ kn K → r ≤ cn (fun p => rrH K g r p = f p) (kn K) := by
    intro r
    induction r with
    | zero => intro _; exact Nat.zero_le _
    | succ r ih =>
      intro hr
      have ih := ih (by omega)
      have hmono : ∀ p, p < kn K → rrH K g r p = f p → rrH K g (r + 1) p = f p := fun p hp e => by
        have h1 : rrH K g (r + 1) p ≤ rrH K g r p := rdH_le K _ _ p
        have h2 := hge (r + 1) p
        omega
      rcases Classical.em (∃ p, p < kn K ∧ rrH K g r p ≠ f p) with ⟨p0, hp0⟩ | hall
      · obtain ⟨p, ⟨hp, hne⟩, hmin⟩ := ex_min (P := fun p => p < kn K ∧ rrH K g r p ≠ f p) f (f p0) p0 (Nat.le_refl _) hp0
        have h1 : f p ≠ g p := fun e => by
          have h2 := rrH_le K g r p
          have h3 := hge r p
          omega
        obtain ⟨q, hq, hadj, hlt⟩ := (hb p hp).resolve_left h1
        have h2 : rrH K g r q = f q := by
          rcases Classical.em (rrH K g r q = f q) with e | e
          · exact e
          · have := hmin q ⟨hq, e⟩; omega
        have h3 : rrH K g (r + 1) p = f p := by
          have h4 : rrH K g (r + 1) p ≤ rrH K g r q + 1 := rdH_adj hadj
          have h5 := hge (r + 1) p
          omega
        have := cn_strict (k := kn K) hmono p hp h3 hne
        omega
      · have h1 : kn K ≤ cn (fun p => rrH K g (r + 1) p = f p) (kn K) := by
          have h2 : cn (fun _ => True) (kn K) ≤ cn (fun p => rrH K g (r + 1) p = f p) (kn K) := cn_mono (fun p hp _ => hmono p hp (by
            rcases Classical.em (rrH K g r p = f p) with e | e
            · exact e
            · exact absurd ⟨p, hp, e⟩ hall))
          have h3 : ∀ k, cn (fun _ => True) k = k := by
            intro k
            induction k with
            | zero => rfl
            | succ k ih => show cn _ k + bn True = k + 1; rw [ih, bn_t trivial]
          rw [h3] at h2
          exact h2
        omega
  exact cn_full (key (kn K) (Nat.le_refl _))
-- from below
theorem rlL_b {K : Cfg} {f : Nat → Nat} {k : Nat} (h : klb K k ≠ kla K k) : rlL K f k (klb K k) = max (f (klb K k)) (max (f (kla K k)) (f (klb K k) - 1) - 1) := by unfold rlL; rw [va_up_self, va_up_ne _ _ h, va_up_self]
theorem rlL_la {K : Cfg} {f : Nat → Nat} {k : Nat} (h : kla K k ≠ klb K k) : rlL K f k (kla K k) = max (f (kla K k)) (f (klb K k) - 1) := by unfold rlL; rw [va_up_ne _ _ h, va_up_self]
theorem rlL_o {K : Cfg} {f : Nat → Nat} {k p : Nat} (h1 : p ≠ klb K k) (h2 : p ≠ kla K k) : rlL K f k p = f p := by unfold rlL; rw [va_up_ne _ _ h1, va_up_ne _ _ h2]
theorem rlL_e {K : Cfg} {f : Nat → Nat} {k : Nat} (h : klb K k = kla K k) : rlL K f k (kla K k) = f (kla K k) := by unfold rlL; rw [h, va_up_self, va_up_self]; omega
theorem rlL_ge (K : Cfg) (f : Nat → Nat) (k p : Nat) : f p ≤ rlL K f k p := by
  by_cases e : klb K k = kla K k
  · by_cases e2 : p = kla K k
    · subst e2; rw [rlL_e e]; exact Nat.le_refl _
    · rw [rlL_o (by rw [e]; exact e2) e2]; exact Nat.le_refl _
  · by_cases e2 : p = klb K k
    · subst e2; rw [rlL_b e]; omega
    · by_cases e3 : p = kla K k
      · subst e3; rw [rlL_la (fun q => e q.symm)]; omega
      · rw [rlL_o e2 e3]; exact Nat.le_refl _
theorem rlL_a (K : Cfg) (f : Nat → Nat) (k : Nat) : f (klb K k) ≤ rlL K f k (kla K k) + 1 ∧ f (kla K k) ≤ rlL K f k (klb K k) + 1 := by
  by_cases e : klb K k = kla K k
  · have := rlL_e (f := f) e
    rw [e, this]; omega
  · rw [rlL_b e, rlL_la (fun q => e q.symm)]; omega
theorem rlL_le {K : Cfg} {f g : Nat → Nat} {k : Nat} (hk : lnkP K f k) (h : ∀ p, g p ≤ f p) (p : Nat) : rlL K g k p ≤ f p := by
  have h1 := h (kla K k); have h2 := h (klb K k); have h3 := h p
  obtain ⟨h4, h5⟩ := hk
  by_cases e : klb K k = kla K k
  · by_cases e2 : p = kla K k
    · subst e2; rw [rlL_e e]; exact h3
    · rw [rlL_o (by rw [e]; exact e2) e2]; exact h3
  · by_cases e2 : p = klb K k
    · subst e2; rw [rlL_b e]; omega
    · by_cases e3 : p = kla K k
      · subst e3; rw [rlL_la (fun q => e q.symm)]; omega
      · rw [rlL_o e2 e3]; exact h3
theorem rdL_ge (K : Cfg) (f : Nat → Nat) : ∀ k p, f p ≤ rdL K f k p
  | 0, p => Nat.le_refl _
  | k + 1, p => Nat.le_trans (rdL_ge K f k p) (rlL_ge K _ k p)
theorem rdL_mono (K : Cfg) (f : Nat → Nat) {i : Nat} : ∀ {k : Nat}, i ≤ k → ∀ p, rdL K f i p ≤ rdL K f k p
  | 0, h, p => by obtain rfl : i = 0 := by omega
                  exact Nat.le_refl _
  | k + 1, h, p => by
    by_cases e : i = k + 1
    · subst e; exact Nat.le_refl _
    · exact Nat.le_trans (rdL_mono K f (show i ≤ k by omega) p) (rlL_ge K _ k p)
theorem rdL_le {K : Cfg} {f g : Nat → Nat} : ∀ {k : Nat}, (∀ x, x < k → lnkP K f x) → (∀ p, g p ≤ f p) → ∀ p, rdL K g k p ≤ f p
  | 0, _, h, p => h p
  | k + 1, hk, h, p => rlL_le (hk k (by omega)) (rdL_le (fun x hx => hk x (by omega)) h) p
theorem rdL_adj {K : Cfg} {g : Nat → Nat} {p q : Nat} (h : adjP K p q) : g q ≤ rdL K g (km K) p + 1 := by
  obtain ⟨k, hk, h⟩ := h
  have h1 := rdL_mono K g (show k + 1 ≤ km K by omega) p
  have h2 : g q ≤ rdL K g (k + 1) p + 1 := by
    have h3 := rdL_ge K g k q
    show g q ≤ rlL K (rdL K g k) k p + 1
    rcases h with ⟨e1, e2⟩ | ⟨e1, e2⟩
    · have := (rlL_a K (rdL K g k) k).1
      rw [e1, e2] at this
      omega
    · have := (rlL_a K (rdL K g k) k).2
      rw [e1, e2] at this
      omega
  omega
theorem rrL_ge (K : Cfg) (f : Nat → Nat) : ∀ r p, f p ≤ rrL K f r p
  | 0, p => Nat.le_refl _
  | r + 1, p => Nat.le_trans (rrL_ge K f r p) (rdL_ge K _ _ p)
theorem rrL_le {K : Cfg} {f g : Nat → Nat} (hf : feasP K f) (h : ∀ p, g p ≤ f p) : ∀ r p, rrL K g r p ≤ f p
  | 0, p => h p
  | r + 1, p => rdL_le (fun x hx => hf x hx) (rrL_le hf h r) p
theorem fix_low {K : Cfg} {f g : Nat → Nat} (hf : feasP K f) (h5 : ∀ p, p < kn K → f p ≤ 5) (ha : ∀ p, g p ≤ f p) (hb : ∀ p, p < kn K → f p = g p ∨ ∃ q, q < kn K ∧ adjP K p q ∧ f p + 1 ≤ f q) : ∀ p, p < kn K → rrL K g (kn K) p = f p := by
  have hle := rrL_le hf ha
  have key : ∀ r, r ≤ kn K → r ≤ cn (fun p => rrL K g r p = f p) (kn K) := by
    intro r
    induction r with
    | zero => intro _; exact Nat.zero_le _
    | succ r ih =>
      intro hr
      have ih := ih (by omega)
      have hmono : ∀ p, p < kn K → rrL K g r p = f p → rrL K g (r + 1) p = f p := fun p hp e => by
        have h1 : rrL K g r p ≤ rrL K g (r + 1) p := rdL_ge K _ _ p
        have h2 := hle (r + 1) p
        omega
      rcases Classical.em (∃ p, p < kn K ∧ rrL K g r p ≠ f p) with ⟨p0, hp0⟩ | hall
      · obtain ⟨p, ⟨hp, hne⟩, hmin⟩ := ex_min (P := fun p => p < kn K ∧ rrL K g r p ≠ f p) (fun p => 5 - f p) (5 - f p0) p0 (Nat.le_refl _) hp0
        have h1 : f p ≠ g p := fun e => by
          have h2 := rrL_ge K g r p
          have h3 := hle r p
          omega
        obtain ⟨q, hq, hadj, hlt⟩ := (hb p hp).resolve_left h1
        have h2 : rrL K g r q = f q := by
          rcases Classical.em (rrL K g r q = f q) with e | e
          · exact e
          · have := hmin q ⟨hq, e⟩
            have := h5 q hq
            have := h5 p hp
            omega
        have h3 : rrL K g (r + 1) p = f p := by
          have h4 : rrL K g r q ≤ rrL K g (r + 1) p + 1 := rdL_adj hadj
          have h6 := hle (r + 1) p
          omega
        have := cn_strict (k := kn K) hmono p hp h3 hne
        omega
      · have h1 : kn K ≤ cn (fun p => rrL K g (r + 1) p = f p) (kn K) := by
          have h2 : cn (fun _ => True) (kn K) ≤ cn (fun p => rrL K g (r + 1) p = f p) (kn K) := cn_mono (fun p hp _ => hmono p hp (by
            rcases Classical.em (rrL K g r p = f p) with e | e
            · exact e
            · exact absurd ⟨p, hp, e⟩ hall))
          have h3 : ∀ k, cn (fun _ => True) k = k := by
            intro k
            induction k with
            | zero => rfl
            | succ k ih => show cn _ k + bn True = k + 1; rw [ih, bn_t trivial]
          rw [h3] at h2
          exact h2
        omega
  exact cn_full (key (kn K) (Nat.le_refl _))
theorem sm_up {f : Nat → Nat} {p x : Nat} : ∀ {n : Nat}, p < n → sm (va_up f p x) n + f p = sm f n + x
  | 0, h => by omega
  | n + 1, h => by
    show sm (va_up f p x) n + va_up f p x n + f p = sm f n + f n + x
    by_cases e : p = n
    · subst e
      rw [va_up_self, sm_congr (g' := f) (fun j hj => va_up_ne _ _ (by omega))]
      omega
    · have := sm_up (f := f) (x := x) (show p < n by omega)
      rw [va_up_ne _ _ (by omega)]
      omega
