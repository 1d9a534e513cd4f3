/-! The reference, 1: in, isPlace, layHigh, layLow, isGood (written by my program parts_m1.py). -/
theorem isPl {K : Cfg} (hW : WFK K) (x : Int32) : (¬ x < 0 ∧ ¬ nI (kn K) - 1 < x) ↔ hasP K x := by
  have hn := hW.n24
  unfold hasP
  constructor
  · intro ⟨h1, h2⟩
    refine ⟨h1, ?_⟩
    have h3 := Int32.le_iff_toInt_le.mp (Int32.not_lt.mp h2)
    rw [show nI (kn K) - 1 = nI (kn K) - nI 1 from rfl, pk_sub_toInt (by omega) (by omega)] at h3
    apply Int32.lt_iff_toInt_lt.mpr
    rw [nI_toInt (by omega)]
    omega
  · intro ⟨h1, h2⟩
    refine ⟨h1, fun h3 => ?_⟩
    have h4 := Int32.lt_iff_toInt_lt.mp h3
    rw [show nI (kn K) - 1 = nI (kn K) - nI 1 from rfl, pk_sub_toInt (by omega) (by omega)] at h4
    have h5 := Int32.lt_iff_toInt_lt.mp h2
    rw [nI_toInt (by omega)] at h5
    omega
theorem hdl {y : Nat} (hy : y ≤ 6) (h : nI y - 1 < 0) : y = 0 := by
  have h1 := Int32.lt_iff_toInt_lt.mp h
  rw [show nI y - 1 = nI y - nI 1 from rfl, pk_sub_toInt (by omega) (by omega)] at h1
  have : (0 : Int32).toInt = 0 := by decide +kernel
  omega
theorem hdnl {y : Nat} (hy : y ≤ 6) (h : ¬ nI y - 1 < 0) : ¬ y = 0 := fun e => h (by rw [e]; decide +kernel)
theorem h0_k0 {K : Cfg} {p : Nat} (h : kk K = 0) : 1 = h0 K p := by unfold h0 nohN mostN; rw [if_neg (by omega), if_neg (by omega), if_neg (by omega)]
theorem h0_k2 {K : Cfg} {p : Nat} (h : kk K = 2) (h1 : ksi K p ≤ 1) : 1 - ksi K p = h0 K p := by
  unfold h0 nohN mostN
  rw [if_neg (by omega), if_neg (show ¬ kk K = 1 by omega)]
  split <;> omega
theorem h0_h1 {K : Cfg} {p : Nat} (hk : kk K = 1) (hy : khd K p ≤ 6) (h : ¬ nI (khd K p) - 1 < 0) : nI (khd K p) - 1 = nI (h0 K p) := by
  unfold h0; rw [if_pos ⟨hk, hdnl hy h⟩]; exact hdN (hdnl hy h)
theorem h0_h0 {K : Cfg} {p : Nat} (hk : kk K = 1) (hy : khd K p ≤ 6) (h : nI (khd K p) - 1 < 0) : ktop K p = h0 K p := by
  have := hdl hy h
  unfold h0 nohN mostN
  rw [if_neg (by omega), if_neg (by omega), if_pos hk]
theorem l0_k0 {K : Cfg} {p : Nat} (h : kk K = 0) : 0 = l0 K p := by unfold l0 nohN; rw [if_neg (by omega), if_neg (by omega)]
theorem l0_k2 {K : Cfg} {p : Nat} (h : kk K = 2) (h1 : ksi K p ≤ 1) : ksi K p = l0 K p := by
  unfold l0 nohN
  rw [if_neg (by omega)]
  split <;> omega
theorem l0_h1 {K : Cfg} {p : Nat} (hk : kk K = 1) (hy : khd K p ≤ 6) (h : ¬ nI (khd K p) - 1 < 0) : nI (khd K p) - 1 = nI (l0 K p) := by
  unfold l0; rw [if_pos ⟨hk, hdnl hy h⟩]; exact hdN (hdnl hy h)
theorem l0_h0 {K : Cfg} {p : Nat} (hk : kk K = 1) (hy : khd K p ≤ 6) (h : nI (khd K p) - 1 < 0) : 0 = l0 K p := by
  have := hdl hy h
  unfold l0 nohN
  rw [if_neg (by omega), if_neg (by omega)]
theorem gm1 {x y : Nat} (hx : x ≤ 5) (hy : y ≤ 5) (h : ¬ nI y - nI 1 ≤ nI x) : x < y - 1 := by
  have h1 := Int32.lt_iff_toInt_lt.mp (Int32.not_le.mp h)
  rw [pk_sub_toInt (by omega) (by omega), nI_toInt (by omega)] at h1
  omega
theorem ngm1 {x y : Nat} (hx : x ≤ 5) (hy : y ≤ 5) (h : nI y - nI 1 ≤ nI x) : y - 1 ≤ x := by
  have h1 := Int32.le_iff_toInt_le.mp h
  rw [pk_sub_toInt (by omega) (by omega), nI_toInt (by omega)] at h1
  omega
theorem adj_ab {K : Cfg} {k : Nat} (hk : k < km K) : adjP K (kla K k) (klb K k) := ⟨k, hk, Or.inl ⟨rfl, rfl⟩⟩
theorem adj_ba {K : Cfg} {k : Nat} (hk : k < km K) : adjP K (klb K k) (kla K k) := ⟨k, hk, Or.inr ⟨rfl, rfl⟩⟩
theorem lk_ne {K : Cfg} (hW : WFK K) {k : Nat} (hk : k < km K) : kla K k ≠ klb K k := (hW.lk hk).2.2.1
def HIv (K : Cfg) (f : Nat → Nat) : Prop := (∀ p, f p ≤ h0 K p) ∧ ∀ p, p < kn K → f p = h0 K p ∨ ∃ q, q < kn K ∧ adjP K p q ∧ f q + 1 ≤ f p
def LIv (K : Cfg) (f : Nat → Nat) : Prop := (∀ p, l0 K p ≤ f p) ∧ (∀ p, p < kn K → f p ≤ 5) ∧ ∀ p, p < kn K → f p = l0 K p ∨ ∃ q, q < kn K ∧ adjP K p q ∧ f p + 1 ≤ f q
theorem HIv.start {K : Cfg} (hW : WFK K) : HIv K (h0 K) := ⟨fun _ => Nat.le_refl _, fun _ _ => Or.inl rfl⟩
theorem LIv.start {K : Cfg} (hW : WFK K) : LIv K (l0 K) := ⟨fun _ => Nat.le_refl _, fun _ hp => l0_le hW hp, fun _ _ => Or.inl rfl⟩
theorem HIv.up {K : Cfg} {f : Nat → Nat} (h : HIv K f) (hW : WFK K) {p q : Nat} (hp : p < kn K) (hq : q < kn K) (ha : adjP K p q) (hne : p ≠ q) (hlt : f q + 1 < f p) : HIv K (va_up f p (f q + 1)) := by
  have hle : ∀ x, va_up f p (f q + 1) x ≤ f x := fun x => by
    by_cases e : x = p
    · subst e; rw [va_up_self]; omega
    · rw [va_up_ne _ _ e]; exact Nat.le_refl _
  refine ⟨fun x => Nat.le_trans (hle x) (h.1 x), fun x hx => ?_⟩
  by_cases e : x = p
  · subst e
    exact Or.inr ⟨q, hq, ha, by rw [va_up_self, va_up_ne _ _ (Ne.symm hne)]; omega⟩
  · rw [va_up_ne _ _ e]
    rcases h.2 x hx with h1 | ⟨y, hy, h2, h3⟩
    · exact Or.inl h1
    · exact Or.inr ⟨y, hy, h2, by have := hle y; omega⟩
theorem LIv.up {K : Cfg} {f : Nat → Nat} (h : LIv K f) (hW : WFK K) {p q : Nat} (hp : p < kn K) (hq : q < kn K) (ha : adjP K p q) (hne : p ≠ q) (hlt : f p < f q - 1) : LIv K (va_up f p (f q - 1)) := by
  have hge : ∀ x, f x ≤ va_up f p (f q - 1) x := fun x => by
    by_cases e : x = p
    · subst e; rw [va_up_self]; omega
    · rw [va_up_ne _ _ e]; exact Nat.le_refl _
  refine ⟨fun x => Nat.le_trans (h.1 x) (hge x), fun x hx => ?_, fun x hx => ?_⟩
  · by_cases e : x = p
    · subst e; rw [va_up_self]; have := h.2.1 q hq; omega
    · rw [va_up_ne _ _ e]; exact h.2.1 x hx
  by_cases e : x = p
  · subst e
    exact Or.inr ⟨q, hq, ha, by rw [va_up_self, va_up_ne _ _ (Ne.symm hne)]; omega⟩
  · rw [va_up_ne _ _ e]
    rcases h.2.2 x hx with h1 | ⟨y, hy, h2, h3⟩
    · exact Or.inl h1
    · exact Or.inr ⟨y, hy, h2, by have := hge y; omega⟩
theorem sm_lt {f : Nat → Nat} {p x n : Nat} (hp : p < n) (hlt : x < f p) : sm (va_up f p x) n < sm f n := by
  have := sm_up (f := f) (x := x) hp; omega
theorem sm_gt {f : Nat → Nat} {p x n : Nat} (hp : p < n) (hlt : f p < x) (h5 : x ≤ 5) : sm (fun q => 5 - va_up f p x q) n < sm (fun q => 5 - f q) n := by
  have e : (fun q => 5 - va_up f p x q) = va_up (fun q => 5 - f q) p (5 - x) := funext fun q => by
    by_cases e : q = p
    · subst e; rw [va_up_self, va_up_self]
    · rw [va_up_ne _ _ e, va_up_ne _ _ e]
  rw [e]
  exact sm_lt hp (by omega)
theorem hS_fix {K : Cfg} (hW : WFK K) {f : Nat → Nat} (hk : kk K = 1) (hf : feasP K f) (h : HIv K f) : ∀ p, p < kn K → hS K p = f p := by
  intro p hp
  unfold hS
  rw [if_pos hk]
  exact fix_high hf h.1 h.2 p hp
theorem lS_fix {K : Cfg} (hW : WFK K) {f : Nat → Nat} (hk : kk K = 1) (hf : feasP K f) (h : LIv K f) : ∀ p, p < kn K → lS K p = f p := by
  intro p hp
  unfold lS
  rw [if_pos hk]
  exact fix_low hf h.2.1 h.1 h.2.2 p hp
theorem feas_of {K : Cfg} (hW : WFK K) {f g : Nat → Nat} (hf : feasP K f) (h : ∀ p, p < kn K → g p = f p) : feasP K g := by
  intro k hk
  unfold lnkP
  rw [h _ (hW.la hk), h _ (hW.lb hk)]
  exact hf k hk
theorem good0 {K : Cfg} (h : kk K = 0) (q : GoodP K) : kv K ≤ ku K := by have := q.2; unfold soundP at this; rw [if_pos h] at this; exact this
theorem good0r {K : Cfg} (h : kk K = 0) (hn : 0 < kn K) (h2 : kv K ≤ ku K) : GoodP K := ⟨hn, by unfold soundP; rw [if_pos h]; exact h2⟩
theorem good2 {K : Cfg} {k : Nat} (h : kk K = 2) (hk : k = km K) : (0 < kn K ∧ ∀ x, x < k → ksi K (kla K x) ≠ ksi K (klb K x)) ↔ GoodP K := by
  subst hk
  unfold GoodP soundP crossP
  rw [if_neg (by omega), if_neg (by omega)]
theorem good1 {K : Cfg} (hW : WFK K) {i : Nat} (h : kk K = 1) (hi : i = kn K) (hf : kk K = 1 → feasP K (hS K)) : (0 < kn K ∧ ∀ x, x < i → khd K x = 0 ∨ hS K x + 1 = khd K x) ↔ GoodP K := by
  subst hi
  have hf := hf h
  unfold GoodP soundP
  rw [if_neg (by omega), if_pos h]
  have hS_le : ∀ p, hS K p ≤ h0 K p := fun p => by unfold hS; rw [if_pos h]; exact rrH_le K _ _ p
  have lS_ge : ∀ p, l0 K p ≤ lS K p := fun p => by unfold lS; rw [if_pos h]; exact rrL_ge K _ _ p
  constructor
  · intro ⟨hn, h1⟩
    refine ⟨hn, ?_⟩
    have h2 : ∀ p, p < kn K → l0 K p ≤ hS K p := fun p hp => by
      unfold l0
      by_cases e : khd K p = 0
      · rw [if_neg (by omega)]; unfold nohN; rw [if_neg (by omega)]; omega
      · rw [if_pos ⟨h, e⟩]
        rcases h1 p hp with q | q
        · exact absurd q e
        · omega
    intro p hp
    have h3 : ∀ r q, q < kn K → rrL K (l0 K) r q ≤ hS K q := by
      have key : ∀ (g : Nat → Nat), (∀ q, q < kn K → g q ≤ hS K q) → ∀ k, k ≤ km K → ∀ q, q < kn K → rdL K g k q ≤ hS K q := by
        intro g hg k
        induction k with
        | zero => intro _ q hq; exact hg q hq
        | succ k ih =>
          intro hk q hq
          have ih := ih (by omega)
          have hkm : k < km K := by omega
          have h4 := ih (kla K k) (hW.la hkm)
          have h5 := ih (klb K k) (hW.lb hkm)
          obtain ⟨h6, h7⟩ := hf k hkm
          show rlL K (rdL K g k) k q ≤ hS K q
          have e : klb K k ≠ kla K k := fun z => (hW.lk hkm).2.2.1 z.symm
          by_cases e2 : q = klb K k
          · subst e2; rw [rlL_b e]; omega
          · by_cases e3 : q = kla K k
            · subst e3; rw [rlL_la (fun z => e z.symm)]; omega
            · rw [rlL_o e2 e3]; exact ih q hq
      intro r
      induction r with
      | zero => intro q hq; exact h2 q hq
      | succ r ih => exact key _ ih (km K) (Nat.le_refl _)
    show lS K p ≤ hS K p
    unfold lS
    rw [if_pos h]
    exact h3 (kn K) p hp
  · intro ⟨hn, h1⟩
    refine ⟨hn, fun p hp => ?_⟩
    by_cases e : khd K p = 0
    · exact Or.inl e
    · right
      have h2 := hS_le p
      have h3 := lS_ge p
      have h4 := h1 p hp
      unfold h0 at h2
      unfold l0 at h3
      rw [if_pos ⟨h, e⟩] at h2 h3
      omega
theorem dX6_in_0 : decode cX6_in 0 = .ok (.iload_n 0, 1) := by decide +kernel
theorem dX6_in_1 : decode cX6_in 1 = .ok (.iload_n 1, 1) := by decide +kernel
theorem dX6_in_2 : decode cX6_in 2 = .ok (.if_icmp .lt 12, 3) := by decide +kernel
theorem dX6_in_5 : decode cX6_in 5 = .ok (.iload_n 0, 1) := by decide +kernel
theorem dX6_in_6 : decode cX6_in 6 = .ok (.iload_n 2, 1) := by decide +kernel
theorem dX6_in_7 : decode cX6_in 7 = .ok (.if_icmp .gt 7, 3) := by decide +kernel
theorem dX6_in_10 : decode cX6_in 10 = .ok (.iconst 1, 1) := by decide +kernel
theorem dX6_in_11 : decode cX6_in 11 = .ok (.goto 4, 3) := by decide +kernel
theorem dX6_in_14 : decode cX6_in 14 = .ok (.iconst 0, 1) := by decide +kernel
theorem dX6_in_15 : decode cX6_in 15 = .ok (.ireturn, 1) := by decide +kernel
def rX6_in : Room := { frames := 0, cells := 0, slots := 0, locals := 0 }
theorem sk_X6_in : SK yX6_in cX6_in 3 (some .boolean) 3 := ⟨xst_X6_in, xin_X6, xco_X6_in, by decide +kernel⟩
set_option maxRecDepth 4000 in
theorem c_X6_in {l : Launch} {D : va_G} {t : Nat → ClassId} {b : Nat → Nat} {I : Nat → Int32} {F : Nat → Nat → Int32} (x y z : Int32) : CT l D t yX6_in cX6_in 3 (some .boolean) rX6_in 0 0 [.int x, .int y, .int z] (WM b t I F) (RP (.int (nI (bn (¬ x < y ∧ ¬ z < x)))) (WM b t I F)) := by
  refine CT.of (by decide +kernel) (by simp [lg_sl, Value.category]) (fun X C hR => ?_)
  refine xlocals (lv' := [(0, .int x), (1, .int y), (2, .int z)]) rfl ?_
  refine xiload_n C 0 rfl dX6_in_0 ?_
  refine xiload_n C 1 rfl dX6_in_1 ?_
  refine xicmp_lt C 14 dX6_in_2 (by decide) (fun h2 => ?_) (fun h2 => ?_)
  ·
    refine xiconst (v := nI 0) C dX6_in_14 (by decide) ?_
    exact xret C hR (by rfl) dX6_in_15 (RPn ((bn_f (fun q => q.1 h2)).symm))
  ·
    refine xiload_n C 0 rfl dX6_in_5 ?_
    refine xiload_n C 2 rfl dX6_in_6 ?_
    refine xicmp_gt C 14 dX6_in_7 (by decide) (fun h7 => ?_) (fun h7 => ?_)
    ·
      refine xiconst (v := nI 0) C dX6_in_14 (by decide) ?_
      exact xret C hR (by rfl) dX6_in_15 (RPn ((bn_f (fun q => q.2 h7)).symm))
    ·
      refine xiconst (v := nI 1) C dX6_in_10 (by decide) ?_
      refine xgoto C 15 dX6_in_11 (by decide) ?_
      exact xret C hR (by rfl) dX6_in_15 (RPn ((bn_t ⟨h2, h7⟩).symm))
theorem dX6_isPlace_0 : decode cX6_isPlace 0 = .ok (.iload_n 1, 1) := by decide +kernel
theorem dX6_isPlace_1 : decode cX6_isPlace 1 = .ok (.iconst 0, 1) := by decide +kernel
theorem dX6_isPlace_2 : decode cX6_isPlace 2 = .ok (.aload_n 0, 1) := by decide +kernel
theorem dX6_isPlace_3 : decode cX6_isPlace 3 = .ok (.getfield 53, 3) := by decide +kernel
theorem dX6_isPlace_6 : decode cX6_isPlace 6 = .ok (.iconst 1, 1) := by decide +kernel
theorem dX6_isPlace_7 : decode cX6_isPlace 7 = .ok (.isub, 1) := by decide +kernel
theorem dX6_isPlace_8 : decode cX6_isPlace 8 = .ok (.invokestatic 56, 3) := by decide +kernel
theorem dX6_isPlace_11 : decode cX6_isPlace 11 = .ok (.ireturn, 1) := by decide +kernel
def rX6_isPlace : Room := { frames := 1, cells := 0, slots := 0, locals := 22 }
theorem yk_X6_isPlace : YK yX6_isPlace cX6_isPlace 2 (some .boolean) 1 := ⟨xim_X6_isPlace, xse_X6_isPlace, xin_X6, xco_X6_isPlace, by decide +kernel⟩
set_option maxRecDepth 4000 in
theorem c_X6_isPlace {l : Launch} {D : va_G} {t : Nat → ClassId} {b : Nat → Nat} {I : Nat → Int32} {F : Nat → Nat → Int32} {K : Cfg} (hK : CFG K I F) (hW : WFK K) (x : Int32) : CT l D t yX6_isPlace cX6_isPlace 2 (some .boolean) rX6_isPlace 0 0 [.ref (b 0), .int x] (WM b t I F) (RP (.int (nI (bn (hasP K x)))) (WM b t I F)) := by
  refine CT.of (by decide +kernel) (by simp [lg_sl, Value.category]) (fun X C hR => ?_)
  refine xlocals (lv' := [(0, .ref (b 0)), (1, .int x)]) rfl ?_
  have fn24 := hW.n24; have fm60 := hW.m60; have fk2 := hW.k2; have fu1 := hW.u1; have fu9 := hW.u9; have fv1 := hW.v1; have fv9 := hW.v9
  refine xiload_n C 1 rfl dX6_isPlace_0 ?_
  refine xiconst (v := 0) C dX6_isPlace_1 (by decide) ?_
  refine xaload_n C 0 rfl dX6_isPlace_2 ?_
  refine gX6_53K C hK dX6_isPlace_3 ?_
  refine xiconst (v := 1) C dX6_isPlace_6 (by decide) ?_
  refine xisub C dX6_isPlace_7 ?_
  refine xcSR C (c_X6_in x 0 ((nI (kn K)) - 1)) sk_X6_in xml_X6_56 ⟨⟨Nat.le_of_ble_eq_true rfl, Nat.le_of_ble_eq_true rfl⟩, ⟨rfl, rfl⟩, ⟨Nat.zero_le _, Nat.zero_le _⟩⟩ rfl (Nat.le_of_ble_eq_true rfl) dX6_isPlace_8 ?_
  exact xret C hR (nar_bn _) dX6_isPlace_11 (RPn (bn_iff (isPl hW x)))
theorem dX6_layHigh_0 : decode cX6_layHigh 0 = .ok (.iconst 0, 1) := by decide +kernel
theorem dX6_layHigh_1 : decode cX6_layHigh 1 = .ok (.istore_n 2, 1) := by decide +kernel
theorem dX6_layHigh_2 : decode cX6_layHigh 2 = .ok (.iload_n 2, 1) := by decide +kernel
theorem dX6_layHigh_3 : decode cX6_layHigh 3 = .ok (.aload_n 0, 1) := by decide +kernel
theorem dX6_layHigh_4 : decode cX6_layHigh 4 = .ok (.getfield 53, 3) := by decide +kernel
theorem dX6_layHigh_7 : decode cX6_layHigh 7 = .ok (.if_icmp .ge 66, 3) := by decide +kernel
theorem dX6_layHigh_10 : decode cX6_layHigh 10 = .ok (.aload_n 1, 1) := by decide +kernel
theorem dX6_layHigh_11 : decode cX6_layHigh 11 = .ok (.iload_n 2, 1) := by decide +kernel
theorem dX6_layHigh_12 : decode cX6_layHigh 12 = .ok (.aload_n 0, 1) := by decide +kernel
theorem dX6_layHigh_13 : decode cX6_layHigh 13 = .ok (.getfield 90, 3) := by decide +kernel
theorem dX6_layHigh_16 : decode cX6_layHigh 16 = .ok (.ifCond .ne 7, 3) := by decide +kernel
theorem dX6_layHigh_19 : decode cX6_layHigh 19 = .ok (.iconst 1, 1) := by decide +kernel
theorem dX6_layHigh_20 : decode cX6_layHigh 20 = .ok (.goto 46, 3) := by decide +kernel
theorem dX6_layHigh_23 : decode cX6_layHigh 23 = .ok (.aload_n 0, 1) := by decide +kernel
theorem dX6_layHigh_24 : decode cX6_layHigh 24 = .ok (.getfield 90, 3) := by decide +kernel
theorem dX6_layHigh_27 : decode cX6_layHigh 27 = .ok (.iconst 2, 1) := by decide +kernel
theorem dX6_layHigh_28 : decode cX6_layHigh 28 = .ok (.if_icmp .ne 14, 3) := by decide +kernel
theorem dX6_layHigh_31 : decode cX6_layHigh 31 = .ok (.iconst 1, 1) := by decide +kernel
theorem dX6_layHigh_32 : decode cX6_layHigh 32 = .ok (.aload_n 0, 1) := by decide +kernel
theorem dX6_layHigh_33 : decode cX6_layHigh 33 = .ok (.getfield 13, 3) := by decide +kernel
theorem dX6_layHigh_36 : decode cX6_layHigh 36 = .ok (.iload_n 2, 1) := by decide +kernel
theorem dX6_layHigh_37 : decode cX6_layHigh 37 = .ok (.iaload, 1) := by decide +kernel
theorem dX6_layHigh_38 : decode cX6_layHigh 38 = .ok (.isub, 1) := by decide +kernel
theorem dX6_layHigh_39 : decode cX6_layHigh 39 = .ok (.goto 27, 3) := by decide +kernel
theorem dX6_layHigh_42 : decode cX6_layHigh 42 = .ok (.aload_n 0, 1) := by decide +kernel
theorem dX6_layHigh_43 : decode cX6_layHigh 43 = .ok (.getfield 16, 3) := by decide +kernel
theorem dX6_layHigh_46 : decode cX6_layHigh 46 = .ok (.iload_n 2, 1) := by decide +kernel
theorem dX6_layHigh_47 : decode cX6_layHigh 47 = .ok (.iaload, 1) := by decide +kernel
theorem dX6_layHigh_48 : decode cX6_layHigh 48 = .ok (.ifCond .lt 12, 3) := by decide +kernel
theorem dX6_layHigh_51 : decode cX6_layHigh 51 = .ok (.aload_n 0, 1) := by decide +kernel
theorem dX6_layHigh_52 : decode cX6_layHigh 52 = .ok (.getfield 16, 3) := by decide +kernel
theorem dX6_layHigh_55 : decode cX6_layHigh 55 = .ok (.iload_n 2, 1) := by decide +kernel
theorem dX6_layHigh_56 : decode cX6_layHigh 56 = .ok (.iaload, 1) := by decide +kernel
theorem dX6_layHigh_57 : decode cX6_layHigh 57 = .ok (.goto 9, 3) := by decide +kernel
theorem dX6_layHigh_60 : decode cX6_layHigh 60 = .ok (.aload_n 0, 1) := by decide +kernel
theorem dX6_layHigh_61 : decode cX6_layHigh 61 = .ok (.getfield 7, 3) := by decide +kernel
theorem dX6_layHigh_64 : decode cX6_layHigh 64 = .ok (.iload_n 2, 1) := by decide +kernel
theorem dX6_layHigh_65 : decode cX6_layHigh 65 = .ok (.iaload, 1) := by decide +kernel
theorem dX6_layHigh_66 : decode cX6_layHigh 66 = .ok (.iastore, 1) := by decide +kernel
theorem dX6_layHigh_67 : decode cX6_layHigh 67 = .ok (.iinc 2 1, 3) := by decide +kernel
theorem dX6_layHigh_70 : decode cX6_layHigh 70 = .ok (.goto (-68), 3) := by decide +kernel
theorem dX6_layHigh_73 : decode cX6_layHigh 73 = .ok (.aload_n 0, 1) := by decide +kernel
theorem dX6_layHigh_74 : decode cX6_layHigh 74 = .ok (.getfield 90, 3) := by decide +kernel
theorem dX6_layHigh_77 : decode cX6_layHigh 77 = .ok (.iconst 1, 1) := by decide +kernel
theorem dX6_layHigh_78 : decode cX6_layHigh 78 = .ok (.if_icmp .ne 7, 3) := by decide +kernel
theorem dX6_layHigh_81 : decode cX6_layHigh 81 = .ok (.iconst 1, 1) := by decide +kernel
theorem dX6_layHigh_82 : decode cX6_layHigh 82 = .ok (.goto 4, 3) := by decide +kernel
theorem dX6_layHigh_85 : decode cX6_layHigh 85 = .ok (.iconst 0, 1) := by decide +kernel
theorem dX6_layHigh_86 : decode cX6_layHigh 86 = .ok (.istore_n 2, 1) := by decide +kernel
theorem dX6_layHigh_87 : decode cX6_layHigh 87 = .ok (.iload_n 2, 1) := by decide +kernel
theorem dX6_layHigh_88 : decode cX6_layHigh 88 = .ok (.ifCond .eq 90, 3) := by decide +kernel
theorem dX6_layHigh_91 : decode cX6_layHigh 91 = .ok (.iconst 0, 1) := by decide +kernel
theorem dX6_layHigh_92 : decode cX6_layHigh 92 = .ok (.istore_n 2, 1) := by decide +kernel
theorem dX6_layHigh_93 : decode cX6_layHigh 93 = .ok (.iconst 0, 1) := by decide +kernel
theorem dX6_layHigh_94 : decode cX6_layHigh 94 = .ok (.istore_n 3, 1) := by decide +kernel
theorem dX6_layHigh_95 : decode cX6_layHigh 95 = .ok (.iload_n 3, 1) := by decide +kernel
theorem dX6_layHigh_96 : decode cX6_layHigh 96 = .ok (.aload_n 0, 1) := by decide +kernel
theorem dX6_layHigh_97 : decode cX6_layHigh 97 = .ok (.getfield 79, 3) := by decide +kernel
theorem dX6_layHigh_100 : decode cX6_layHigh 100 = .ok (.if_icmp .ge 75, 3) := by decide +kernel
theorem dX6_layHigh_103 : decode cX6_layHigh 103 = .ok (.aload_n 0, 1) := by decide +kernel
theorem dX6_layHigh_104 : decode cX6_layHigh 104 = .ok (.getfield 25, 3) := by decide +kernel
theorem dX6_layHigh_107 : decode cX6_layHigh 107 = .ok (.iload_n 3, 1) := by decide +kernel
theorem dX6_layHigh_108 : decode cX6_layHigh 108 = .ok (.iaload, 1) := by decide +kernel
theorem dX6_layHigh_109 : decode cX6_layHigh 109 = .ok (.istore 4, 2) := by decide +kernel
theorem dX6_layHigh_111 : decode cX6_layHigh 111 = .ok (.aload_n 0, 1) := by decide +kernel
theorem dX6_layHigh_112 : decode cX6_layHigh 112 = .ok (.getfield 28, 3) := by decide +kernel
theorem dX6_layHigh_115 : decode cX6_layHigh 115 = .ok (.iload_n 3, 1) := by decide +kernel
theorem dX6_layHigh_116 : decode cX6_layHigh 116 = .ok (.iaload, 1) := by decide +kernel
theorem dX6_layHigh_117 : decode cX6_layHigh 117 = .ok (.istore 5, 2) := by decide +kernel
theorem dX6_layHigh_119 : decode cX6_layHigh 119 = .ok (.aload_n 1, 1) := by decide +kernel
theorem dX6_layHigh_120 : decode cX6_layHigh 120 = .ok (.iload 4, 2) := by decide +kernel
theorem dX6_layHigh_122 : decode cX6_layHigh 122 = .ok (.iaload, 1) := by decide +kernel
theorem dX6_layHigh_123 : decode cX6_layHigh 123 = .ok (.aload_n 1, 1) := by decide +kernel
theorem dX6_layHigh_124 : decode cX6_layHigh 124 = .ok (.iload 5, 2) := by decide +kernel
theorem dX6_layHigh_126 : decode cX6_layHigh 126 = .ok (.iaload, 1) := by decide +kernel
theorem dX6_layHigh_127 : decode cX6_layHigh 127 = .ok (.iconst 1, 1) := by decide +kernel
theorem dX6_layHigh_128 : decode cX6_layHigh 128 = .ok (.iadd, 1) := by decide +kernel
theorem dX6_layHigh_129 : decode cX6_layHigh 129 = .ok (.if_icmp .le 15, 3) := by decide +kernel
theorem dX6_layHigh_132 : decode cX6_layHigh 132 = .ok (.aload_n 1, 1) := by decide +kernel
theorem dX6_layHigh_133 : decode cX6_layHigh 133 = .ok (.iload 4, 2) := by decide +kernel
theorem dX6_layHigh_135 : decode cX6_layHigh 135 = .ok (.aload_n 1, 1) := by decide +kernel
theorem dX6_layHigh_136 : decode cX6_layHigh 136 = .ok (.iload 5, 2) := by decide +kernel
theorem dX6_layHigh_138 : decode cX6_layHigh 138 = .ok (.iaload, 1) := by decide +kernel
theorem dX6_layHigh_139 : decode cX6_layHigh 139 = .ok (.iconst 1, 1) := by decide +kernel
theorem dX6_layHigh_140 : decode cX6_layHigh 140 = .ok (.iadd, 1) := by decide +kernel
theorem dX6_layHigh_141 : decode cX6_layHigh 141 = .ok (.iastore, 1) := by decide +kernel
theorem dX6_layHigh_142 : decode cX6_layHigh 142 = .ok (.iconst 1, 1) := by decide +kernel
theorem dX6_layHigh_143 : decode cX6_layHigh 143 = .ok (.istore_n 2, 1) := by decide +kernel
theorem dX6_layHigh_144 : decode cX6_layHigh 144 = .ok (.aload_n 1, 1) := by decide +kernel
theorem dX6_layHigh_145 : decode cX6_layHigh 145 = .ok (.iload 5, 2) := by decide +kernel
theorem dX6_layHigh_147 : decode cX6_layHigh 147 = .ok (.iaload, 1) := by decide +kernel
theorem dX6_layHigh_148 : decode cX6_layHigh 148 = .ok (.aload_n 1, 1) := by decide +kernel
theorem dX6_layHigh_149 : decode cX6_layHigh 149 = .ok (.iload 4, 2) := by decide +kernel
theorem dX6_layHigh_151 : decode cX6_layHigh 151 = .ok (.iaload, 1) := by decide +kernel
theorem dX6_layHigh_152 : decode cX6_layHigh 152 = .ok (.iconst 1, 1) := by decide +kernel
theorem dX6_layHigh_153 : decode cX6_layHigh 153 = .ok (.iadd, 1) := by decide +kernel
theorem dX6_layHigh_154 : decode cX6_layHigh 154 = .ok (.if_icmp .le 15, 3) := by decide +kernel
theorem dX6_layHigh_157 : decode cX6_layHigh 157 = .ok (.aload_n 1, 1) := by decide +kernel
theorem dX6_layHigh_158 : decode cX6_layHigh 158 = .ok (.iload 5, 2) := by decide +kernel
theorem dX6_layHigh_160 : decode cX6_layHigh 160 = .ok (.aload_n 1, 1) := by decide +kernel
theorem dX6_layHigh_161 : decode cX6_layHigh 161 = .ok (.iload 4, 2) := by decide +kernel
theorem dX6_layHigh_163 : decode cX6_layHigh 163 = .ok (.iaload, 1) := by decide +kernel
theorem dX6_layHigh_164 : decode cX6_layHigh 164 = .ok (.iconst 1, 1) := by decide +kernel
theorem dX6_layHigh_165 : decode cX6_layHigh 165 = .ok (.iadd, 1) := by decide +kernel
theorem dX6_layHigh_166 : decode cX6_layHigh 166 = .ok (.iastore, 1) := by decide +kernel
theorem dX6_layHigh_167 : decode cX6_layHigh 167 = .ok (.iconst 1, 1) := by decide +kernel
theorem dX6_layHigh_168 : decode cX6_layHigh 168 = .ok (.istore_n 2, 1) := by decide +kernel
theorem dX6_layHigh_169 : decode cX6_layHigh 169 = .ok (.iinc 3 1, 3) := by decide +kernel
theorem dX6_layHigh_172 : decode cX6_layHigh 172 = .ok (.goto (-77), 3) := by decide +kernel
theorem dX6_layHigh_175 : decode cX6_layHigh 175 = .ok (.goto (-88), 3) := by decide +kernel
theorem dX6_layHigh_178 : decode cX6_layHigh 178 = .ok (.return_, 1) := by decide +kernel
def rX6_layHigh : Room := { frames := 0, cells := 0, slots := 0, locals := 0 }
theorem yk_X6_layHigh : YK yX6_layHigh cX6_layHigh 6 none 1 := ⟨xim_X6_layHigh, xse_X6_layHigh, xin_X6, xco_X6_layHigh, by decide +kernel⟩
set_option maxRecDepth 4000 in
theorem c_X6_layHigh {l : Launch} {D : va_G} {t : Nat → ClassId} {b : Nat → Nat} {I : Nat → Int32} {F : Nat → Nat → Int32} {K : Cfg} (hK : CFG K I F) (hW : WFK K) (j : Nat) (h8 : 8 ≤ j) (hj : j < 13) : CT l D t yX6_layHigh cX6_layHigh 6 none rX6_layHigh 0 0 [.ref (b 0), .ref (b j)] (WM b t I F) (VP (fun w => ∃ F' : Nat → Nat → Int32, w = WM b t I F' ∧ (∀ q, q ≠ j → F' q = F q) ∧ RA (kn K) (F' j) (hS K) ∧ (kk K = 1 → feasP K (hS K)))) := by
  refine CT.of (by decide +kernel) (by simp [lg_sl, Value.category]) (fun X C hR => ?_)
  refine xlocals (lv' := [(0, .ref (b 0)), (1, .ref (b j))]) rfl ?_
  have fn24 := hW.n24; have fm60 := hW.m60; have fk2 := hW.k2; have fu1 := hW.u1; have fu9 := hW.u9; have fv1 := hW.v1; have fv9 := hW.v9
  refine xiconst (v := nI 0) C dX6_layHigh_0 (by decide) ?_
  refine xistore_n (lv' := [(2, .int (nI 0)), (0, .ref (b 0)), (1, .ref (b j))]) C dX6_layHigh_1 (by decide) rfl ?_
  have LP2 : ∀ (fu2 : Nat) (i : Nat) (FA : Nat → Nat → Int32) (hi1 : i ≤ kn K) (hXA : (∀ q, q ≠ j → FA q = F q)) (hA : RA i (FA j) (h0 K)), kn K - i < fu2 → XW X 0 0 (WM b t I FA) [(0, .ref (b 0)), (1, .ref (b j)), (2, .int (nI i))] 2 [] := by
    intro fu2
    induction fu2 with
    | zero => intro i FA hi1 hXA hA hm2; exact absurd hm2 (Nat.not_lt_zero _)
    | succ fu2 ih2 =>
      intro i FA hi1 hXA hA hm2
      have hKA : CFG K I FA := hK.of (fun _ _ => rfl) (fun q hq => hXA q (by omega))
      refine xiload_n C 2 rfl dX6_layHigh_2 ?_
      refine xaload_n C 0 rfl dX6_layHigh_3 ?_
      refine gX6_53K C hKA dX6_layHigh_4 ?_
      refine xicmp_geN C 73 dX6_layHigh_7 (by decide) (by omega) (by omega) (fun h7 => ?_) (fun h7 => ?_)
      ·
        have ei : i = kn K := by omega
        rw [ei] at hA
        refine xaload_n C 0 rfl dX6_layHigh_73 ?_
        refine gX6_90K C hKA dX6_layHigh_74 ?_
        refine xiconst (v := nI 1) C dX6_layHigh_77 (by decide) ?_
        refine xicmp_neN C 85 dX6_layHigh_78 (by decide) (by omega) (by omega) (fun h78 => ?_) (fun h78 => ?_)
        ·
          refine xiconst (v := nI 0) C dX6_layHigh_85 (by decide) ?_
          refine xistore_n (lv' := [(2, .int (nI 0)), (0, .ref (b 0)), (1, .ref (b j))]) C dX6_layHigh_86 (by decide) rfl ?_
          refine xiload_n C 0 rfl dX6_layHigh_87 ?_
          refine xif_eqN C 178 dX6_layHigh_88 (by decide) (by omega) (fun h88 => ?_) (fun h88 => ?_)
          ·
            exact xvret C hR dX6_layHigh_178 (⟨rfl, FA, rfl, hXA, by unfold hS; rw [if_neg h78]; exact hA, fun q => absurd q h78⟩)
          · exact absurd rfl h88
        ·
          refine xiconst (v := nI 1) C dX6_layHigh_81 (by decide) ?_
          refine xgoto C 86 dX6_layHigh_82 (by decide) ?_
          refine xistore_n (lv' := [(2, .int (nI 1)), (0, .ref (b 0)), (1, .ref (b j))]) C dX6_layHigh_86 (by decide) rfl ?_
          have LP87 : ∀ (fu87 : Nat) (mo : Nat) (f : Nat → Nat) (FC : Nat → Nat → Int32) (hmo : mo = 1 ∨ (mo = 0 ∧ feasP K f)) (hIv : HIv K f) (hC : RA (kn K) (FC j) f) (hXC : (∀ q, q ≠ j → FC q = F q)), mo + sm f (kn K) < fu87 → XW X 0 0 (WM b t I FC) [(0, .ref (b 0)), (1, .ref (b j)), (2, .int (nI mo))] 87 [] := by
            intro fu87
            induction fu87 with
            | zero => intro mo f FC hmo hIv hC hXC hm87; exact absurd hm87 (Nat.not_lt_zero _)
            | succ fu87 ih87 =>
              intro mo f FC hmo hIv hC hXC hm87
              have hKC : CFG K I FC := hK.of (fun _ _ => rfl) (fun q hq => hXC q (by omega))
              refine xiload_n C 2 rfl dX6_layHigh_87 ?_
              refine xif_eqN C 178 dX6_layHigh_88 (by decide) (by omega) (fun h88 => ?_) (fun h88 => ?_)
              ·
                have hfe : feasP K f := by rcases hmo with e | e; omega; exact e.2
                exact xvret C hR dX6_layHigh_178 (⟨rfl, FC, rfl, hXC, fun p hp => by rw [hS_fix hW h78 hfe hIv p hp]; exact hC p hp, fun _ => feas_of hW hfe (hS_fix hW h78 hfe hIv)⟩)
              ·
                have hm1 : mo = 1 := by rcases hmo with e | e; exact e; omega
                refine xiconst (v := nI 0) C dX6_layHigh_91 (by decide) ?_
                refine xistore_n (lv' := [(2, .int (nI 0)), (0, .ref (b 0)), (1, .ref (b j))]) C dX6_layHigh_92 (by decide) rfl ?_
                refine xiconst (v := nI 0) C dX6_layHigh_93 (by decide) ?_
                refine xistore_n (lv' := [(3, .int (nI 0)), (2, .int (nI 0)), (0, .ref (b 0)), (1, .ref (b j))]) C dX6_layHigh_94 (by decide) rfl ?_
                have LP95 : ∀ (fu95 : Nat) (k : Nat) (mo2 : Nat) (f2 : Nat → Nat) (FD : Nat → Nat → Int32) (hk : k ≤ km K) (hD : (mo2 = 0 ∧ f2 = f ∧ ∀ x, x < k → lnkP K f2 x) ∨ (mo2 = 1 ∧ sm f2 (kn K) < sm f (kn K))) (hIv2 : HIv K f2) (hD2 : RA (kn K) (FD j) f2) (hXD : (∀ q, q ≠ j → FD q = F q)), km K - k < fu95 → XW X 0 0 (WM b t I FD) [(0, .ref (b 0)), (1, .ref (b j)), (2, .int (nI mo2)), (3, .int (nI k))] 95 [] := by
                  intro fu95
                  induction fu95 with
                  | zero => intro k mo2 f2 FD hk hD hIv2 hD2 hXD hm95; exact absurd hm95 (Nat.not_lt_zero _)
                  | succ fu95 ih95 =>
                    intro k mo2 f2 FD hk hD hIv2 hD2 hXD hm95
                    have hKD : CFG K I FD := hK.of (fun _ _ => rfl) (fun q hq => hXD q (by omega))
                    refine xiload_n C 3 rfl dX6_layHigh_95 ?_
                    refine xaload_n C 0 rfl dX6_layHigh_96 ?_
                    refine gX6_79K C hKD dX6_layHigh_97 ?_
                    refine xicmp_geN C 175 dX6_layHigh_100 (by decide) (by omega) (by omega) (fun h100 => ?_) (fun h100 => ?_)
                    ·
                      refine xgoto C 87 dX6_layHigh_175 (by decide) ?_
                      refine xsub [0, 1, 2] rfl ?_
                      exact ih87 mo2 f2 FD (by rcases hD with ⟨e1, e2, e3⟩ | ⟨e1, e2⟩; exact Or.inr ⟨e1, fun x hx => e3 x (by omega)⟩; exact Or.inl e1) hIv2 hD2 hXD (by rcases hD with ⟨e1, e2, e3⟩ | ⟨e1, e2⟩; (subst e2; omega); omega)
                    ·
                      refine xaload_n C 0 rfl dX6_layHigh_103 ?_
                      refine gX6_25 C dX6_layHigh_104 ?_
                      refine xiload_n C 3 rfl dX6_layHigh_107 ?_
                      refine ma_la C hKD hW k (by omega) dX6_layHigh_108 ?_
                      have fb108 := (hW.la (by omega))
                      refine xistore (lv' := [(4, .int (nI (kla K k))), (0, .ref (b 0)), (1, .ref (b j)), (2, .int (nI mo2)), (3, .int (nI k))]) C dX6_layHigh_109 (by decide) rfl ?_
                      refine xaload_n C 1 rfl dX6_layHigh_111 ?_
                      refine gX6_28 C dX6_layHigh_112 ?_
                      refine xiload_n C 4 rfl dX6_layHigh_115 ?_
                      refine ma_lb C hKD hW k (by omega) dX6_layHigh_116 ?_
                      have fb116 := (hW.lb (by omega))
                      refine xistore (lv' := [(5, .int (nI (klb K k))), (4, .int (nI (kla K k))), (0, .ref (b 0)), (1, .ref (b j)), (2, .int (nI mo2)), (3, .int (nI k))]) C dX6_layHigh_117 (by decide) rfl ?_
                      refine xaload_n C 3 rfl dX6_layHigh_119 ?_
                      refine xiload C 1 rfl dX6_layHigh_120 ?_
                      refine ma_st C hW j h8 hj hD2 (kla K k) (by omega) dX6_layHigh_122 ?_
                      have fb122 := (hD2 (kla K k) (by omega)).2
                      refine xaload_n C 3 rfl dX6_layHigh_123 ?_
                      refine xiload C 0 rfl dX6_layHigh_124 ?_
                      refine ma_st C hW j h8 hj hD2 (klb K k) (by omega) dX6_layHigh_126 ?_
                      have fb126 := (hD2 (klb K k) (by omega)).2
                      refine xiconst (v := nI 1) C dX6_layHigh_127 (by decide) ?_
                      refine xiaddN C dX6_layHigh_128 ?_
                      refine xicmp_leN C 144 dX6_layHigh_129 (by decide) (by omega) (by omega) (fun h129 => ?_) (fun h129 => ?_)
                      ·
                        refine xaload_n C 3 rfl dX6_layHigh_144 ?_
                        refine xiload C 0 rfl dX6_layHigh_145 ?_
                        refine ma_st C hW j h8 hj hD2 (klb K k) (by omega) dX6_layHigh_147 ?_
                        have fb147 := (hD2 (klb K k) (by omega)).2
                        refine xaload_n C 3 rfl dX6_layHigh_148 ?_
                        refine xiload C 1 rfl dX6_layHigh_149 ?_
                        refine ma_st C hW j h8 hj hD2 (kla K k) (by omega) dX6_layHigh_151 ?_
                        have fb151 := (hD2 (kla K k) (by omega)).2
                        refine xiconst (v := nI 1) C dX6_layHigh_152 (by decide) ?_
                        refine xiaddN C dX6_layHigh_153 ?_
                        refine xicmp_leN C 169 dX6_layHigh_154 (by decide) (by omega) (by omega) (fun h154 => ?_) (fun h154 => ?_)
                        ·
                          refine xiincN (lv' := [(3, .int (nI (k + 1))), (5, .int (nI (klb K k))), (4, .int (nI (kla K k))), (0, .ref (b 0)), (1, .ref (b j)), (2, .int (nI mo2))]) C 5 rfl dX6_layHigh_169 (by decide) rfl ?_
                          refine xgoto C 95 dX6_layHigh_172 (by decide) ?_
                          refine xsub [3, 4, 5, 0] rfl ?_
                          exact ih95 (k + 1) mo2 f2 FD (by omega) (by rcases hD with ⟨e1, e2, e3⟩ | ⟨e1, e2⟩; exact Or.inl ⟨e1, e2, lt_s e3 ⟨by omega, by omega⟩⟩; exact Or.inr ⟨e1, e2⟩) hIv2 hD2 hXD (by omega)
                        ·
                          refine xaload_n C 3 rfl dX6_layHigh_157 ?_
                          refine xiload C 0 rfl dX6_layHigh_158 ?_
                          refine xaload_n C 3 rfl dX6_layHigh_160 ?_
                          refine xiload C 1 rfl dX6_layHigh_161 ?_
                          refine ma_st C hW j h8 hj hD2 (kla K k) (by omega) dX6_layHigh_163 ?_
                          have fb163 := (hD2 (kla K k) (by omega)).2
                          refine xiconst (v := nI 1) C dX6_layHigh_164 (by decide) ?_
                          refine xiaddN C dX6_layHigh_165 ?_
                          refine ms_st C j h8 hj (klb K k) (by omega) dX6_layHigh_166 ?_
                          obtain ⟨f4, ef4⟩ : ∃ z : Nat → Nat, z = va_up f2 (klb K k) (f2 (kla K k) + 1) := ⟨_, rfl⟩
                          obtain ⟨FE4, eFE4⟩ : ∃ z : Nat → Nat → Int32, z = va_up FD j (upd (FD j) (klb K k) (nI ((f2 (kla K k)) + 1))) := ⟨_, rfl⟩
                          refine xworld (ws' := WM b t I FE4) (by rw [eFE4]) ?_
                          have hI4 : HIv K f4 := by rw [ef4]; exact hIv2.up hW (by omega) (by omega) (adj_ba h100) (lk_ne hW h100).symm (by omega)
                          have hR4 : RA (kn K) (FE4 j) f4 := by rw [eFE4, va_up_self, ef4]; exact hD2.up (by omega)
                          have hX4 : (∀ q, q ≠ j → FE4 q = F q) := fun q hq => by rw [eFE4, va_up_ne _ _ hq]; exact hXD q hq
                          have hK4 : CFG K I FE4 := hK.of (fun _ _ => rfl) (fun q hq => hX4 q (by omega))
                          have hs4 : sm f4 (kn K) < sm f2 (kn K) := by rw [ef4]; exact sm_lt (by omega) (by omega)
                          refine xiconst (v := nI 1) C dX6_layHigh_167 (by decide) ?_
                          refine xistore_n (lv' := [(2, .int (nI 1)), (5, .int (nI (klb K k))), (4, .int (nI (kla K k))), (0, .ref (b 0)), (1, .ref (b j)), (3, .int (nI k))]) C dX6_layHigh_168 (by decide) rfl ?_
                          refine xiincN (lv' := [(3, .int (nI (k + 1))), (2, .int (nI 1)), (5, .int (nI (klb K k))), (4, .int (nI (kla K k))), (0, .ref (b 0)), (1, .ref (b j))]) C 5 rfl dX6_layHigh_169 (by decide) rfl ?_
                          refine xgoto C 95 dX6_layHigh_172 (by decide) ?_
                          refine xsub [4, 5, 1, 0] rfl ?_
                          exact ih95 (k + 1) 1 f4 FE4 (by omega) (Or.inr ⟨rfl, by rcases hD with ⟨e1, e2, e3⟩ | ⟨e1, e2⟩; (subst e2; omega); omega⟩) hI4 hR4 hX4 (by omega)
                      ·
                        refine xaload_n C 3 rfl dX6_layHigh_132 ?_
                        refine xiload C 1 rfl dX6_layHigh_133 ?_
                        refine xaload_n C 3 rfl dX6_layHigh_135 ?_
                        refine xiload C 0 rfl dX6_layHigh_136 ?_
                        refine ma_st C hW j h8 hj hD2 (klb K k) (by omega) dX6_layHigh_138 ?_
                        have fb138 := (hD2 (klb K k) (by omega)).2
                        refine xiconst (v := nI 1) C dX6_layHigh_139 (by decide) ?_
                        refine xiaddN C dX6_layHigh_140 ?_
                        refine ms_st C j h8 hj (kla K k) (by omega) dX6_layHigh_141 ?_
                        obtain ⟨f3, ef3⟩ : ∃ z : Nat → Nat, z = va_up f2 (kla K k) (f2 (klb K k) + 1) := ⟨_, rfl⟩
                        obtain ⟨FE3, eFE3⟩ : ∃ z : Nat → Nat → Int32, z = va_up FD j (upd (FD j) (kla K k) (nI ((f2 (klb K k)) + 1))) := ⟨_, rfl⟩
                        refine xworld (ws' := WM b t I FE3) (by rw [eFE3]) ?_
                        have hI3 : HIv K f3 := by rw [ef3]; exact hIv2.up hW (by omega) (by omega) (adj_ab h100) (lk_ne hW h100) (by omega)
                        have hR3 : RA (kn K) (FE3 j) f3 := by rw [eFE3, va_up_self, ef3]; exact hD2.up (by omega)
                        have hX3 : (∀ q, q ≠ j → FE3 q = F q) := fun q hq => by rw [eFE3, va_up_ne _ _ hq]; exact hXD q hq
                        have hK3 : CFG K I FE3 := hK.of (fun _ _ => rfl) (fun q hq => hX3 q (by omega))
                        have hs3 : sm f3 (kn K) < sm f2 (kn K) := by rw [ef3]; exact sm_lt (by omega) (by omega)
                        refine xiconst (v := nI 1) C dX6_layHigh_142 (by decide) ?_
                        refine xistore_n (lv' := [(2, .int (nI 1)), (5, .int (nI (klb K k))), (4, .int (nI (kla K k))), (0, .ref (b 0)), (1, .ref (b j)), (3, .int (nI k))]) C dX6_layHigh_143 (by decide) rfl ?_
                        refine xaload_n C 4 rfl dX6_layHigh_144 ?_
                        refine xiload C 1 rfl dX6_layHigh_145 ?_
                        refine ma_st C hW j h8 hj hR3 (klb K k) (by omega) dX6_layHigh_147 ?_
                        have fb147 := (hR3 (klb K k) (by omega)).2
                        refine xaload_n C 4 rfl dX6_layHigh_148 ?_
                        refine xiload C 2 rfl dX6_layHigh_149 ?_
                        refine ma_st C hW j h8 hj hR3 (kla K k) (by omega) dX6_layHigh_151 ?_
                        have fb151 := (hR3 (kla K k) (by omega)).2
                        refine xiconst (v := nI 1) C dX6_layHigh_152 (by decide) ?_
                        refine xiaddN C dX6_layHigh_153 ?_
                        refine xicmp_leN C 169 dX6_layHigh_154 (by decide) (by omega) (by omega) (fun h154 => ?_) (fun h154 => ?_)
                        ·
                          refine xiincN (lv' := [(3, .int (nI (k + 1))), (2, .int (nI 1)), (5, .int (nI (klb K k))), (4, .int (nI (kla K k))), (0, .ref (b 0)), (1, .ref (b j))]) C 5 rfl dX6_layHigh_169 (by decide) rfl ?_
                          refine xgoto C 95 dX6_layHigh_172 (by decide) ?_
                          refine xsub [4, 5, 1, 0] rfl ?_
                          exact ih95 (k + 1) 1 f3 FE3 (by omega) (Or.inr ⟨rfl, by rcases hD with ⟨e1, e2, e3⟩ | ⟨e1, e2⟩; (subst e2; omega); omega⟩) hI3 hR3 hX3 (by omega)
                        ·
                          refine xaload_n C 4 rfl dX6_layHigh_157 ?_
                          refine xiload C 1 rfl dX6_layHigh_158 ?_
                          refine xaload_n C 4 rfl dX6_layHigh_160 ?_
                          refine xiload C 2 rfl dX6_layHigh_161 ?_
                          refine ma_st C hW j h8 hj hR3 (kla K k) (by omega) dX6_layHigh_163 ?_
                          have fb163 := (hR3 (kla K k) (by omega)).2
                          refine xiconst (v := nI 1) C dX6_layHigh_164 (by decide) ?_
                          refine xiaddN C dX6_layHigh_165 ?_
                          refine ms_st C j h8 hj (klb K k) (by omega) dX6_layHigh_166 ?_
                          obtain ⟨f4, ef4⟩ : ∃ z : Nat → Nat, z = va_up f3 (klb K k) (f3 (kla K k) + 1) := ⟨_, rfl⟩
                          obtain ⟨FE4, eFE4⟩ : ∃ z : Nat → Nat → Int32, z = va_up FE3 j (upd (FE3 j) (klb K k) (nI ((f3 (kla K k)) + 1))) := ⟨_, rfl⟩
                          refine xworld (ws' := WM b t I FE4) (by rw [eFE4]) ?_
                          have hI4 : HIv K f4 := by rw [ef4]; exact hI3.up hW (by omega) (by omega) (adj_ba h100) (lk_ne hW h100).symm (by omega)
                          have hR4 : RA (kn K) (FE4 j) f4 := by rw [eFE4, va_up_self, ef4]; exact hR3.up (by omega)
                          have hX4 : (∀ q, q ≠ j → FE4 q = F q) := fun q hq => by rw [eFE4, va_up_ne _ _ hq]; exact hX3 q hq
                          have hK4 : CFG K I FE4 := hK.of (fun _ _ => rfl) (fun q hq => hX4 q (by omega))
                          have hs4 : sm f4 (kn K) < sm f3 (kn K) := by rw [ef4]; exact sm_lt (by omega) (by omega)
                          refine xiconst (v := nI 1) C dX6_layHigh_167 (by decide) ?_
                          refine xistore_n (lv' := [(2, .int (nI 1)), (5, .int (nI (klb K k))), (4, .int (nI (kla K k))), (0, .ref (b 0)), (1, .ref (b j)), (3, .int (nI k))]) C dX6_layHigh_168 (by decide) rfl ?_
                          refine xiincN (lv' := [(3, .int (nI (k + 1))), (2, .int (nI 1)), (5, .int (nI (klb K k))), (4, .int (nI (kla K k))), (0, .ref (b 0)), (1, .ref (b j))]) C 5 rfl dX6_layHigh_169 (by decide) rfl ?_
                          refine xgoto C 95 dX6_layHigh_172 (by decide) ?_
                          refine xsub [4, 5, 1, 0] rfl ?_
                          exact ih95 (k + 1) 1 f4 FE4 (by omega) (Or.inr ⟨rfl, by rcases hD with ⟨e1, e2, e3⟩ | ⟨e1, e2⟩; (subst e2; omega); omega⟩) hI4 hR4 hX4 (by omega)
                refine xsub [2, 3, 1, 0] rfl ?_
                exact LP95 _ 0 0 f FC (Nat.zero_le _) (Or.inl ⟨rfl, rfl, fun x h => absurd h (Nat.not_lt_zero _)⟩) hIv hC hXC (Nat.lt_succ_self _)
          refine xsub [1, 2, 0] rfl ?_
          exact LP87 _ 1 (h0 K) FA (Or.inl rfl) (HIv.start hW) hA hXA (Nat.lt_succ_self _)
      ·
        refine xaload_n C 1 rfl dX6_layHigh_10 ?_
        refine xiload_n C 2 rfl dX6_layHigh_11 ?_
        refine xaload_n C 0 rfl dX6_layHigh_12 ?_
        refine gX6_90K C hKA dX6_layHigh_13 ?_
        refine xif_neN C 23 dX6_layHigh_16 (by decide) (by omega) (fun h16 => ?_) (fun h16 => ?_)
        ·
          refine xaload_n C 0 rfl dX6_layHigh_23 ?_
          refine gX6_90K C hKA dX6_layHigh_24 ?_
          refine xiconst (v := nI 2) C dX6_layHigh_27 (by decide) ?_
          refine xicmp_neN C 42 dX6_layHigh_28 (by decide) (by omega) (by omega) (fun h28 => ?_) (fun h28 => ?_)
          ·
            refine xaload_n C 0 rfl dX6_layHigh_42 ?_
            refine gX6_16 C dX6_layHigh_43 ?_
            refine xiload_n C 2 rfl dX6_layHigh_46 ?_
            refine ma_hd C hKA hW i (by omega) dX6_layHigh_47 ?_
            have fb47 := (hW.hd6 (by omega))
            refine xif_lt C 60 dX6_layHigh_48 (by decide) (fun h48 => ?_) (fun h48 => ?_)
            ·
              refine xaload_n C 0 rfl dX6_layHigh_60 ?_
              refine gX6_7 C dX6_layHigh_61 ?_
              refine xiload_n C 2 rfl dX6_layHigh_64 ?_
              refine ma_top C hKA hW i (by omega) dX6_layHigh_65 ?_
              have fb65 := (hW.top5 (by omega))
              refine xtopi (y := nI (h0 K i)) (by rw [h0_h0 (by omega) (by omega) h48]) ?_
              refine ms_st C j h8 hj i (by omega) dX6_layHigh_66 ?_
              obtain ⟨FB, eFB⟩ : ∃ z : Nat → Nat → Int32, z = va_up FA j (upd (FA j) i (nI (h0 K i))) := ⟨_, rfl⟩
              refine xworld (ws' := WM b t I FB) (by rw [eFB]) ?_
              refine xiincN (lv' := [(2, .int (nI (i + 1))), (0, .ref (b 0)), (1, .ref (b j))]) C 2 rfl dX6_layHigh_67 (by decide) rfl ?_
              refine xgoto C 2 dX6_layHigh_70 (by decide) ?_
              refine xsub [1, 2, 0] rfl ?_
              exact ih2 (i + 1) FB (by omega) (fun q hq => by rw [eFB, va_up_ne _ _ hq]; exact hXA q hq) (by rw [eFB, va_up_self]; exact hA.snoc (h0_le hW (by omega))) (by omega)
            ·
              refine xaload_n C 0 rfl dX6_layHigh_51 ?_
              refine gX6_16 C dX6_layHigh_52 ?_
              refine xiload_n C 2 rfl dX6_layHigh_55 ?_
              refine ma_hd C hKA hW i (by omega) dX6_layHigh_56 ?_
              have fb56 := (hW.hd6 (by omega))
              refine xgoto C 66 dX6_layHigh_57 (by decide) ?_
              refine xtopi (y := nI (h0 K i)) (h0_h1 (by omega) (by omega) h48) ?_
              refine ms_st C j h8 hj i (by omega) dX6_layHigh_66 ?_
              obtain ⟨FB, eFB⟩ : ∃ z : Nat → Nat → Int32, z = va_up FA j (upd (FA j) i (nI (h0 K i))) := ⟨_, rfl⟩
              refine xworld (ws' := WM b t I FB) (by rw [eFB]) ?_
              refine xiincN (lv' := [(2, .int (nI (i + 1))), (0, .ref (b 0)), (1, .ref (b j))]) C 2 rfl dX6_layHigh_67 (by decide) rfl ?_
              refine xgoto C 2 dX6_layHigh_70 (by decide) ?_
              refine xsub [1, 2, 0] rfl ?_
              exact ih2 (i + 1) FB (by omega) (fun q hq => by rw [eFB, va_up_ne _ _ hq]; exact hXA q hq) (by rw [eFB, va_up_self]; exact hA.snoc (h0_le hW (by omega))) (by omega)
          ·
            refine xiconst (v := nI 1) C dX6_layHigh_31 (by decide) ?_
            refine xaload_n C 0 rfl dX6_layHigh_32 ?_
            refine gX6_13 C dX6_layHigh_33 ?_
            refine xiload_n C 2 rfl dX6_layHigh_36 ?_
            refine ma_si C hKA hW i (by omega) dX6_layHigh_37 ?_
            have fb37 := (hW.si1 (by omega))
            refine xisubN C (by omega) dX6_layHigh_38 ?_
            refine xgoto C 66 dX6_layHigh_39 (by decide) ?_
            refine xtopi (y := nI (h0 K i)) (by rw [h0_k2 h28 (by omega)]) ?_
            refine ms_st C j h8 hj i (by omega) dX6_layHigh_66 ?_
            obtain ⟨FB, eFB⟩ : ∃ z : Nat → Nat → Int32, z = va_up FA j (upd (FA j) i (nI (h0 K i))) := ⟨_, rfl⟩
            refine xworld (ws' := WM b t I FB) (by rw [eFB]) ?_
            refine xiincN (lv' := [(2, .int (nI (i + 1))), (0, .ref (b 0)), (1, .ref (b j))]) C 2 rfl dX6_layHigh_67 (by decide) rfl ?_
            refine xgoto C 2 dX6_layHigh_70 (by decide) ?_
            refine xsub [1, 2, 0] rfl ?_
            exact ih2 (i + 1) FB (by omega) (fun q hq => by rw [eFB, va_up_ne _ _ hq]; exact hXA q hq) (by rw [eFB, va_up_self]; exact hA.snoc (h0_le hW (by omega))) (by omega)
        ·
          refine xiconst (v := nI 1) C dX6_layHigh_19 (by decide) ?_
          refine xgoto C 66 dX6_layHigh_20 (by decide) ?_
          refine xtopi (y := nI (h0 K i)) (by rw [h0_k0 h16]) ?_
          refine ms_st C j h8 hj i (by omega) dX6_layHigh_66 ?_
          obtain ⟨FB, eFB⟩ : ∃ z : Nat → Nat → Int32, z = va_up FA j (upd (FA j) i (nI (h0 K i))) := ⟨_, rfl⟩
          refine xworld (ws' := WM b t I FB) (by rw [eFB]) ?_
          refine xiincN (lv' := [(2, .int (nI (i + 1))), (0, .ref (b 0)), (1, .ref (b j))]) C 2 rfl dX6_layHigh_67 (by decide) rfl ?_
          refine xgoto C 2 dX6_layHigh_70 (by decide) ?_
          refine xsub [1, 2, 0] rfl ?_
          exact ih2 (i + 1) FB (by omega) (fun q hq => by rw [eFB, va_up_ne _ _ hq]; exact hXA q hq) (by rw [eFB, va_up_self]; exact hA.snoc (h0_le hW (by omega))) (by omega)
  refine xsub [1, 2, 0] rfl ?_
  exact LP2 _ 0 F (Nat.zero_le _) (fun _ _ => rfl) (fun p h => absurd h (Nat.not_lt_zero _)) (Nat.lt_succ_self _)
theorem dX6_layLow_0 : decode cX6_layLow 0 = .ok (.iconst 0, 1) := by decide +kernel
theorem dX6_layLow_1 : decode cX6_layLow 1 = .ok (.istore_n 2, 1) := by decide +kernel
theorem dX6_layLow_2 : decode cX6_layLow 2 = .ok (.iload_n 2, 1) := by decide +kernel
theorem dX6_layLow_3 : decode cX6_layLow 3 = .ok (.aload_n 0, 1) := by decide +kernel
theorem dX6_layLow_4 : decode cX6_layLow 4 = .ok (.getfield 53, 3) := by decide +kernel
theorem dX6_layLow_7 : decode cX6_layLow 7 = .ok (.if_icmp .ge 59, 3) := by decide +kernel
theorem dX6_layLow_10 : decode cX6_layLow 10 = .ok (.aload_n 1, 1) := by decide +kernel
theorem dX6_layLow_11 : decode cX6_layLow 11 = .ok (.iload_n 2, 1) := by decide +kernel
theorem dX6_layLow_12 : decode cX6_layLow 12 = .ok (.aload_n 0, 1) := by decide +kernel
theorem dX6_layLow_13 : decode cX6_layLow 13 = .ok (.getfield 90, 3) := by decide +kernel
theorem dX6_layLow_16 : decode cX6_layLow 16 = .ok (.ifCond .ne 7, 3) := by decide +kernel
theorem dX6_layLow_19 : decode cX6_layLow 19 = .ok (.iconst 0, 1) := by decide +kernel
theorem dX6_layLow_20 : decode cX6_layLow 20 = .ok (.goto 39, 3) := by decide +kernel
theorem dX6_layLow_23 : decode cX6_layLow 23 = .ok (.aload_n 0, 1) := by decide +kernel
theorem dX6_layLow_24 : decode cX6_layLow 24 = .ok (.getfield 90, 3) := by decide +kernel
theorem dX6_layLow_27 : decode cX6_layLow 27 = .ok (.iconst 2, 1) := by decide +kernel
theorem dX6_layLow_28 : decode cX6_layLow 28 = .ok (.if_icmp .ne 12, 3) := by decide +kernel
theorem dX6_layLow_31 : decode cX6_layLow 31 = .ok (.aload_n 0, 1) := by decide +kernel
theorem dX6_layLow_32 : decode cX6_layLow 32 = .ok (.getfield 13, 3) := by decide +kernel
theorem dX6_layLow_35 : decode cX6_layLow 35 = .ok (.iload_n 2, 1) := by decide +kernel
theorem dX6_layLow_36 : decode cX6_layLow 36 = .ok (.iaload, 1) := by decide +kernel
theorem dX6_layLow_37 : decode cX6_layLow 37 = .ok (.goto 22, 3) := by decide +kernel
theorem dX6_layLow_40 : decode cX6_layLow 40 = .ok (.aload_n 0, 1) := by decide +kernel
theorem dX6_layLow_41 : decode cX6_layLow 41 = .ok (.getfield 16, 3) := by decide +kernel
theorem dX6_layLow_44 : decode cX6_layLow 44 = .ok (.iload_n 2, 1) := by decide +kernel
theorem dX6_layLow_45 : decode cX6_layLow 45 = .ok (.iaload, 1) := by decide +kernel
theorem dX6_layLow_46 : decode cX6_layLow 46 = .ok (.ifCond .lt 12, 3) := by decide +kernel
theorem dX6_layLow_49 : decode cX6_layLow 49 = .ok (.aload_n 0, 1) := by decide +kernel
theorem dX6_layLow_50 : decode cX6_layLow 50 = .ok (.getfield 16, 3) := by decide +kernel
theorem dX6_layLow_53 : decode cX6_layLow 53 = .ok (.iload_n 2, 1) := by decide +kernel
theorem dX6_layLow_54 : decode cX6_layLow 54 = .ok (.iaload, 1) := by decide +kernel
theorem dX6_layLow_55 : decode cX6_layLow 55 = .ok (.goto 4, 3) := by decide +kernel
theorem dX6_layLow_58 : decode cX6_layLow 58 = .ok (.iconst 0, 1) := by decide +kernel
theorem dX6_layLow_59 : decode cX6_layLow 59 = .ok (.iastore, 1) := by decide +kernel
theorem dX6_layLow_60 : decode cX6_layLow 60 = .ok (.iinc 2 1, 3) := by decide +kernel
theorem dX6_layLow_63 : decode cX6_layLow 63 = .ok (.goto (-61), 3) := by decide +kernel
theorem dX6_layLow_66 : decode cX6_layLow 66 = .ok (.aload_n 0, 1) := by decide +kernel
theorem dX6_layLow_67 : decode cX6_layLow 67 = .ok (.getfield 90, 3) := by decide +kernel
theorem dX6_layLow_70 : decode cX6_layLow 70 = .ok (.iconst 1, 1) := by decide +kernel
theorem dX6_layLow_71 : decode cX6_layLow 71 = .ok (.if_icmp .ne 7, 3) := by decide +kernel
theorem dX6_layLow_74 : decode cX6_layLow 74 = .ok (.iconst 1, 1) := by decide +kernel
theorem dX6_layLow_75 : decode cX6_layLow 75 = .ok (.goto 4, 3) := by decide +kernel
theorem dX6_layLow_78 : decode cX6_layLow 78 = .ok (.iconst 0, 1) := by decide +kernel
theorem dX6_layLow_79 : decode cX6_layLow 79 = .ok (.istore_n 2, 1) := by decide +kernel
theorem dX6_layLow_80 : decode cX6_layLow 80 = .ok (.iload_n 2, 1) := by decide +kernel
theorem dX6_layLow_81 : decode cX6_layLow 81 = .ok (.ifCond .eq 90, 3) := by decide +kernel
theorem dX6_layLow_84 : decode cX6_layLow 84 = .ok (.iconst 0, 1) := by decide +kernel
theorem dX6_layLow_85 : decode cX6_layLow 85 = .ok (.istore_n 2, 1) := by decide +kernel
theorem dX6_layLow_86 : decode cX6_layLow 86 = .ok (.iconst 0, 1) := by decide +kernel
theorem dX6_layLow_87 : decode cX6_layLow 87 = .ok (.istore_n 3, 1) := by decide +kernel
theorem dX6_layLow_88 : decode cX6_layLow 88 = .ok (.iload_n 3, 1) := by decide +kernel
theorem dX6_layLow_89 : decode cX6_layLow 89 = .ok (.aload_n 0, 1) := by decide +kernel
theorem dX6_layLow_90 : decode cX6_layLow 90 = .ok (.getfield 79, 3) := by decide +kernel
theorem dX6_layLow_93 : decode cX6_layLow 93 = .ok (.if_icmp .ge 75, 3) := by decide +kernel
theorem dX6_layLow_96 : decode cX6_layLow 96 = .ok (.aload_n 0, 1) := by decide +kernel
theorem dX6_layLow_97 : decode cX6_layLow 97 = .ok (.getfield 25, 3) := by decide +kernel
theorem dX6_layLow_100 : decode cX6_layLow 100 = .ok (.iload_n 3, 1) := by decide +kernel
theorem dX6_layLow_101 : decode cX6_layLow 101 = .ok (.iaload, 1) := by decide +kernel
theorem dX6_layLow_102 : decode cX6_layLow 102 = .ok (.istore 4, 2) := by decide +kernel
theorem dX6_layLow_104 : decode cX6_layLow 104 = .ok (.aload_n 0, 1) := by decide +kernel
theorem dX6_layLow_105 : decode cX6_layLow 105 = .ok (.getfield 28, 3) := by decide +kernel
theorem dX6_layLow_108 : decode cX6_layLow 108 = .ok (.iload_n 3, 1) := by decide +kernel
theorem dX6_layLow_109 : decode cX6_layLow 109 = .ok (.iaload, 1) := by decide +kernel
theorem dX6_layLow_110 : decode cX6_layLow 110 = .ok (.istore 5, 2) := by decide +kernel
theorem dX6_layLow_112 : decode cX6_layLow 112 = .ok (.aload_n 1, 1) := by decide +kernel
theorem dX6_layLow_113 : decode cX6_layLow 113 = .ok (.iload 4, 2) := by decide +kernel
theorem dX6_layLow_115 : decode cX6_layLow 115 = .ok (.iaload, 1) := by decide +kernel
theorem dX6_layLow_116 : decode cX6_layLow 116 = .ok (.aload_n 1, 1) := by decide +kernel
theorem dX6_layLow_117 : decode cX6_layLow 117 = .ok (.iload 5, 2) := by decide +kernel
theorem dX6_layLow_119 : decode cX6_layLow 119 = .ok (.iaload, 1) := by decide +kernel
theorem dX6_layLow_120 : decode cX6_layLow 120 = .ok (.iconst 1, 1) := by decide +kernel
theorem dX6_layLow_121 : decode cX6_layLow 121 = .ok (.isub, 1) := by decide +kernel
theorem dX6_layLow_122 : decode cX6_layLow 122 = .ok (.if_icmp .ge 15, 3) := by decide +kernel
theorem dX6_layLow_125 : decode cX6_layLow 125 = .ok (.aload_n 1, 1) := by decide +kernel
theorem dX6_layLow_126 : decode cX6_layLow 126 = .ok (.iload 4, 2) := by decide +kernel
theorem dX6_layLow_128 : decode cX6_layLow 128 = .ok (.aload_n 1, 1) := by decide +kernel
theorem dX6_layLow_129 : decode cX6_layLow 129 = .ok (.iload 5, 2) := by decide +kernel
theorem dX6_layLow_131 : decode cX6_layLow 131 = .ok (.iaload, 1) := by decide +kernel
theorem dX6_layLow_132 : decode cX6_layLow 132 = .ok (.iconst 1, 1) := by decide +kernel
theorem dX6_layLow_133 : decode cX6_layLow 133 = .ok (.isub, 1) := by decide +kernel
theorem dX6_layLow_134 : decode cX6_layLow 134 = .ok (.iastore, 1) := by decide +kernel
theorem dX6_layLow_135 : decode cX6_layLow 135 = .ok (.iconst 1, 1) := by decide +kernel
theorem dX6_layLow_136 : decode cX6_layLow 136 = .ok (.istore_n 2, 1) := by decide +kernel
theorem dX6_layLow_137 : decode cX6_layLow 137 = .ok (.aload_n 1, 1) := by decide +kernel
theorem dX6_layLow_138 : decode cX6_layLow 138 = .ok (.iload 5, 2) := by decide +kernel
theorem dX6_layLow_140 : decode cX6_layLow 140 = .ok (.iaload, 1) := by decide +kernel
theorem dX6_layLow_141 : decode cX6_layLow 141 = .ok (.aload_n 1, 1) := by decide +kernel
theorem dX6_layLow_142 : decode cX6_layLow 142 = .ok (.iload 4, 2) := by decide +kernel
theorem dX6_layLow_144 : decode cX6_layLow 144 = .ok (.iaload, 1) := by decide +kernel
theorem dX6_layLow_145 : decode cX6_layLow 145 = .ok (.iconst 1, 1) := by decide +kernel
theorem dX6_layLow_146 : decode cX6_layLow 146 = .ok (.isub, 1) := by decide +kernel
theorem dX6_layLow_147 : decode cX6_layLow 147 = .ok (.if_icmp .ge 15, 3) := by decide +kernel
theorem dX6_layLow_150 : decode cX6_layLow 150 = .ok (.aload_n 1, 1) := by decide +kernel
theorem dX6_layLow_151 : decode cX6_layLow 151 = .ok (.iload 5, 2) := by decide +kernel
theorem dX6_layLow_153 : decode cX6_layLow 153 = .ok (.aload_n 1, 1) := by decide +kernel
theorem dX6_layLow_154 : decode cX6_layLow 154 = .ok (.iload 4, 2) := by decide +kernel
theorem dX6_layLow_156 : decode cX6_layLow 156 = .ok (.iaload, 1) := by decide +kernel
theorem dX6_layLow_157 : decode cX6_layLow 157 = .ok (.iconst 1, 1) := by decide +kernel
theorem dX6_layLow_158 : decode cX6_layLow 158 = .ok (.isub, 1) := by decide +kernel
theorem dX6_layLow_159 : decode cX6_layLow 159 = .ok (.iastore, 1) := by decide +kernel
theorem dX6_layLow_160 : decode cX6_layLow 160 = .ok (.iconst 1, 1) := by decide +kernel
theorem dX6_layLow_161 : decode cX6_layLow 161 = .ok (.istore_n 2, 1) := by decide +kernel
theorem dX6_layLow_162 : decode cX6_layLow 162 = .ok (.iinc 3 1, 3) := by decide +kernel
theorem dX6_layLow_165 : decode cX6_layLow 165 = .ok (.goto (-77), 3) := by decide +kernel
theorem dX6_layLow_168 : decode cX6_layLow 168 = .ok (.goto (-88), 3) := by decide +kernel
theorem dX6_layLow_171 : decode cX6_layLow 171 = .ok (.return_, 1) := by decide +kernel
def rX6_layLow : Room := { frames := 0, cells := 0, slots := 0, locals := 0 }
theorem yk_X6_layLow : YK yX6_layLow cX6_layLow 6 none 1 := ⟨xim_X6_layLow, xse_X6_layLow, xin_X6, xco_X6_layLow, by decide +kernel⟩
set_option maxRecDepth 4000 in
theorem c_X6_layLow {l : Launch} {D : va_G} {t : Nat → ClassId} {b : Nat → Nat} {I : Nat → Int32} {F : Nat → Nat → Int32} {K : Cfg} (hK : CFG K I F) (hW : WFK K) (j : Nat) (h8 : 8 ≤ j) (hj : j < 13) : CT l D t yX6_layLow cX6_layLow 6 none rX6_layLow 0 0 [.ref (b 0), .ref (b j)] (WM b t I F) (VP (fun w => ∃ F' : Nat → Nat → Int32, w = WM b t I F' ∧ (∀ q, q ≠ j → F' q = F q) ∧ RA (kn K) (F' j) (lS K) ∧ (kk K = 1 → feasP K (lS K)))) := by
  refine CT.of (by decide +kernel) (by simp [lg_sl, Value.category]) (fun X C hR => ?_)
  refine xlocals (lv' := [(0, .ref (b 0)), (1, .ref (b j))]) rfl ?_
  have fn24 := hW.n24; have fm60 := hW.m60; have fk2 := hW.k2; have fu1 := hW.u1; have fu9 := hW.u9; have fv1 := hW.v1; have fv9 := hW.v9
  refine xiconst (v := nI 0) C dX6_layLow_0 (by decide) ?_
  refine xistore_n (lv' := [(2, .int (nI 0)), (0, .ref (b 0)), (1, .ref (b j))]) C dX6_layLow_1 (by decide) rfl ?_
  have LP2 : ∀ (fu2 : Nat) (i : Nat) (FA : Nat → Nat → Int32) (hi1 : i ≤ kn K) (hXA : (∀ q, q ≠ j → FA q = F q)) (hA : RA i (FA j) (l0 K)), kn K - i < fu2 → XW X 0 0 (WM b t I FA) [(0, .ref (b 0)), (1, .ref (b j)), (2, .int (nI i))] 2 [] := by
    intro fu2
    induction fu2 with
    | zero => intro i FA hi1 hXA hA hm2; exact absurd hm2 (Nat.not_lt_zero _)
    | succ fu2 ih2 =>
      intro i FA hi1 hXA hA hm2
      have hKA : CFG K I FA := hK.of (fun _ _ => rfl) (fun q hq => hXA q (by omega))
      refine xiload_n C 2 rfl dX6_layLow_2 ?_
      refine xaload_n C 0 rfl dX6_layLow_3 ?_
      refine gX6_53K C hKA dX6_layLow_4 ?_
      refine xicmp_geN C 66 dX6_layLow_7 (by decide) (by omega) (by omega) (fun h7 => ?_) (fun h7 => ?_)
      ·
        have ei : i = kn K := by omega
        rw [ei] at hA
        refine xaload_n C 0 rfl dX6_layLow_66 ?_
        refine gX6_90K C hKA dX6_layLow_67 ?_
        refine xiconst (v := nI 1) C dX6_layLow_70 (by decide) ?_
        refine xicmp_neN C 78 dX6_layLow_71 (by decide) (by omega) (by omega) (fun h71 => ?_) (fun h71 => ?_)
        ·
          refine xiconst (v := nI 0) C dX6_layLow_78 (by decide) ?_
          refine xistore_n (lv' := [(2, .int (nI 0)), (0, .ref (b 0)), (1, .ref (b j))]) C dX6_layLow_79 (by decide) rfl ?_
          refine xiload_n C 0 rfl dX6_layLow_80 ?_
          refine xif_eqN C 171 dX6_layLow_81 (by decide) (by omega) (fun h81 => ?_) (fun h81 => ?_)
          ·
            exact xvret C hR dX6_layLow_171 (⟨rfl, FA, rfl, hXA, by unfold lS; rw [if_neg h71]; exact hA, fun q => absurd q h71⟩)
          · exact absurd rfl h81
        ·
          refine xiconst (v := nI 1) C dX6_layLow_74 (by decide) ?_
          refine xgoto C 79 dX6_layLow_75 (by decide) ?_
          refine xistore_n (lv' := [(2, .int (nI 1)), (0, .ref (b 0)), (1, .ref (b j))]) C dX6_layLow_79 (by decide) rfl ?_
          have LP80 : ∀ (fu80 : Nat) (mo : Nat) (f : Nat → Nat) (FC : Nat → Nat → Int32) (hmo : mo = 1 ∨ (mo = 0 ∧ feasP K f)) (hIv : LIv K f) (hC : RA (kn K) (FC j) f) (hXC : (∀ q, q ≠ j → FC q = F q)), mo + sm (fun p => 5 - f p) (kn K) < fu80 → XW X 0 0 (WM b t I FC) [(0, .ref (b 0)), (1, .ref (b j)), (2, .int (nI mo))] 80 [] := by
            intro fu80
            induction fu80 with
            | zero => intro mo f FC hmo hIv hC hXC hm80; exact absurd hm80 (Nat.not_lt_zero _)
            | succ fu80 ih80 =>
              intro mo f FC hmo hIv hC hXC hm80
              have hKC : CFG K I FC := hK.of (fun _ _ => rfl) (fun q hq => hXC q (by omega))
              refine xiload_n C 2 rfl dX6_layLow_80 ?_
              refine xif_eqN C 171 dX6_layLow_81 (by decide) (by omega) (fun h81 => ?_) (fun h81 => ?_)
              ·
                have hfe : feasP K f := by rcases hmo with e | e; omega; exact e.2
                exact xvret C hR dX6_layLow_171 (⟨rfl, FC, rfl, hXC, fun p hp => by rw [lS_fix hW h71 hfe hIv p hp]; exact hC p hp, fun _ => feas_of hW hfe (lS_fix hW h71 hfe hIv)⟩)
              ·
                have hm1 : mo = 1 := by rcases hmo with e | e; exact e; omega
                refine xiconst (v := nI 0) C dX6_layLow_84 (by decide) ?_
                refine xistore_n (lv' := [(2, .int (nI 0)), (0, .ref (b 0)), (1, .ref (b j))]) C dX6_layLow_85 (by decide) rfl ?_
                refine xiconst (v := nI 0) C dX6_layLow_86 (by decide) ?_
                refine xistore_n (lv' := [(3, .int (nI 0)), (2, .int (nI 0)), (0, .ref (b 0)), (1, .ref (b j))]) C dX6_layLow_87 (by decide) rfl ?_
                have LP88 : ∀ (fu88 : Nat) (k : Nat) (mo2 : Nat) (f2 : Nat → Nat) (FD : Nat → Nat → Int32) (hk : k ≤ km K) (hD : (mo2 = 0 ∧ f2 = f ∧ ∀ x, x < k → lnkP K f2 x) ∨ (mo2 = 1 ∧ sm (fun p => 5 - f2 p) (kn K) < sm (fun p => 5 - f p) (kn K))) (hIv2 : LIv K f2) (hD2 : RA (kn K) (FD j) f2) (hXD : (∀ q, q ≠ j → FD q = F q)), km K - k < fu88 → XW X 0 0 (WM b t I FD) [(0, .ref (b 0)), (1, .ref (b j)), (2, .int (nI mo2)), (3, .int (nI k))] 88 [] := by
                  intro fu88
                  induction fu88 with
                  | zero => intro k mo2 f2 FD hk hD hIv2 hD2 hXD hm88; exact absurd hm88 (Nat.not_lt_zero _)
                  | succ fu88 ih88 =>
                    intro k mo2 f2 FD hk hD hIv2 hD2 hXD hm88
                    have hKD : CFG K I FD := hK.of (fun _ _ => rfl) (fun q hq => hXD q (by omega))
                    refine xiload_n C 3 rfl dX6_layLow_88 ?_
                    refine xaload_n C 0 rfl dX6_layLow_89 ?_
                    refine gX6_79K C hKD dX6_layLow_90 ?_
                    refine xicmp_geN C 168 dX6_layLow_93 (by decide) (by omega) (by omega) (fun h93 => ?_) (fun h93 => ?_)
                    ·
                      refine xgoto C 80 dX6_layLow_168 (by decide) ?_
                      refine xsub [0, 1, 2] rfl ?_
                      exact ih80 mo2 f2 FD (by rcases hD with ⟨e1, e2, e3⟩ | ⟨e1, e2⟩; exact Or.inr ⟨e1, fun x hx => e3 x (by omega)⟩; exact Or.inl e1) hIv2 hD2 hXD (by rcases hD with ⟨e1, e2, e3⟩ | ⟨e1, e2⟩; (subst e2; omega); omega)
                    ·
                      refine xaload_n C 0 rfl dX6_layLow_96 ?_
                      refine gX6_25 C dX6_layLow_97 ?_
                      refine xiload_n C 3 rfl dX6_layLow_100 ?_
                      refine ma_la C hKD hW k (by omega) dX6_layLow_101 ?_
                      have fb101 := (hW.la (by omega))
                      refine xistore (lv' := [(4, .int (nI (kla K k))), (0, .ref (b 0)), (1, .ref (b j)), (2, .int (nI mo2)), (3, .int (nI k))]) C dX6_layLow_102 (by decide) rfl ?_
                      refine xaload_n C 1 rfl dX6_layLow_104 ?_
                      refine gX6_28 C dX6_layLow_105 ?_
                      refine xiload_n C 4 rfl dX6_layLow_108 ?_
                      refine ma_lb C hKD hW k (by omega) dX6_layLow_109 ?_
                      have fb109 := (hW.lb (by omega))
                      refine xistore (lv' := [(5, .int (nI (klb K k))), (4, .int (nI (kla K k))), (0, .ref (b 0)), (1, .ref (b j)), (2, .int (nI mo2)), (3, .int (nI k))]) C dX6_layLow_110 (by decide) rfl ?_
                      refine xaload_n C 3 rfl dX6_layLow_112 ?_
                      refine xiload C 1 rfl dX6_layLow_113 ?_
                      refine ma_st C hW j h8 hj hD2 (kla K k) (by omega) dX6_layLow_115 ?_
                      have fb115 := (hD2 (kla K k) (by omega)).2
                      refine xaload_n C 3 rfl dX6_layLow_116 ?_
                      refine xiload C 0 rfl dX6_layLow_117 ?_
                      refine ma_st C hW j h8 hj hD2 (klb K k) (by omega) dX6_layLow_119 ?_
                      have fb119 := (hD2 (klb K k) (by omega)).2
                      refine xiconst (v := nI 1) C dX6_layLow_120 (by decide) ?_
                      refine xisub C dX6_layLow_121 ?_
                      refine xicmp_ge C 137 dX6_layLow_122 (by decide) (fun h122 => ?_) (fun h122 => ?_)
                      ·
                        have h122 := ngm1 (by omega) (by omega) h122
                        refine xaload_n C 3 rfl dX6_layLow_137 ?_
                        refine xiload C 0 rfl dX6_layLow_138 ?_
                        refine ma_st C hW j h8 hj hD2 (klb K k) (by omega) dX6_layLow_140 ?_
                        have fb140 := (hD2 (klb K k) (by omega)).2
                        refine xaload_n C 3 rfl dX6_layLow_141 ?_
                        refine xiload C 1 rfl dX6_layLow_142 ?_
                        refine ma_st C hW j h8 hj hD2 (kla K k) (by omega) dX6_layLow_144 ?_
                        have fb144 := (hD2 (kla K k) (by omega)).2
                        refine xiconst (v := nI 1) C dX6_layLow_145 (by decide) ?_
                        refine xisub C dX6_layLow_146 ?_
                        refine xicmp_ge C 162 dX6_layLow_147 (by decide) (fun h147 => ?_) (fun h147 => ?_)
                        ·
                          have h147 := ngm1 (by omega) (by omega) h147
                          refine xiincN (lv' := [(3, .int (nI (k + 1))), (5, .int (nI (klb K k))), (4, .int (nI (kla K k))), (0, .ref (b 0)), (1, .ref (b j)), (2, .int (nI mo2))]) C 5 rfl dX6_layLow_162 (by decide) rfl ?_
                          refine xgoto C 88 dX6_layLow_165 (by decide) ?_
                          refine xsub [3, 4, 5, 0] rfl ?_
                          exact ih88 (k + 1) mo2 f2 FD (by omega) (by rcases hD with ⟨e1, e2, e3⟩ | ⟨e1, e2⟩; exact Or.inl ⟨e1, e2, lt_s e3 ⟨by omega, by omega⟩⟩; exact Or.inr ⟨e1, e2⟩) hIv2 hD2 hXD (by omega)
                        ·
                          have h147 := gm1 (by omega) (by omega) h147
                          refine xaload_n C 3 rfl dX6_layLow_150 ?_
                          refine xiload C 0 rfl dX6_layLow_151 ?_
                          refine xaload_n C 3 rfl dX6_layLow_153 ?_
                          refine xiload C 1 rfl dX6_layLow_154 ?_
                          refine ma_st C hW j h8 hj hD2 (kla K k) (by omega) dX6_layLow_156 ?_
                          have fb156 := (hD2 (kla K k) (by omega)).2
                          refine xiconst (v := nI 1) C dX6_layLow_157 (by decide) ?_
                          refine xisub C dX6_layLow_158 ?_
                          refine xtopi (y := nI (f2 (kla K k) - 1)) (pk_sub (by omega)) ?_
                          refine ms_st C j h8 hj (klb K k) (by omega) dX6_layLow_159 ?_
                          obtain ⟨f4, ef4⟩ : ∃ z : Nat → Nat, z = va_up f2 (klb K k) (f2 (kla K k) - 1) := ⟨_, rfl⟩
                          obtain ⟨FE4, eFE4⟩ : ∃ z : Nat → Nat → Int32, z = va_up FD j (upd (FD j) (klb K k) (nI (f2 (kla K k) - 1))) := ⟨_, rfl⟩
                          refine xworld (ws' := WM b t I FE4) (by rw [eFE4]) ?_
                          have hI4 : LIv K f4 := by rw [ef4]; exact hIv2.up hW (by omega) (by omega) (adj_ba h93) (lk_ne hW h93).symm (by omega)
                          have hR4 : RA (kn K) (FE4 j) f4 := by rw [eFE4, va_up_self, ef4]; exact hD2.up (by omega)
                          have hX4 : (∀ q, q ≠ j → FE4 q = F q) := fun q hq => by rw [eFE4, va_up_ne _ _ hq]; exact hXD q hq
                          have hK4 : CFG K I FE4 := hK.of (fun _ _ => rfl) (fun q hq => hX4 q (by omega))
                          have hs4 : sm (fun p => 5 - f4 p) (kn K) < sm (fun p => 5 - f2 p) (kn K) := by rw [ef4]; exact sm_gt (by omega) (by omega) (by have := (hD2 (kla K k) (by omega)).2; omega)
                          refine xiconst (v := nI 1) C dX6_layLow_160 (by decide) ?_
                          refine xistore_n (lv' := [(2, .int (nI 1)), (5, .int (nI (klb K k))), (4, .int (nI (kla K k))), (0, .ref (b 0)), (1, .ref (b j)), (3, .int (nI k))]) C dX6_layLow_161 (by decide) rfl ?_
                          refine xiincN (lv' := [(3, .int (nI (k + 1))), (2, .int (nI 1)), (5, .int (nI (klb K k))), (4, .int (nI (kla K k))), (0, .ref (b 0)), (1, .ref (b j))]) C 5 rfl dX6_layLow_162 (by decide) rfl ?_
                          refine xgoto C 88 dX6_layLow_165 (by decide) ?_
                          refine xsub [4, 5, 1, 0] rfl ?_
                          exact ih88 (k + 1) 1 f4 FE4 (by omega) (Or.inr ⟨rfl, by rcases hD with ⟨e1, e2, e3⟩ | ⟨e1, e2⟩; (subst e2; omega); omega⟩) hI4 hR4 hX4 (by omega)
                      ·
                        have h122 := gm1 (by omega) (by omega) h122
                        refine xaload_n C 3 rfl dX6_layLow_125 ?_
                        refine xiload C 1 rfl dX6_layLow_126 ?_
                        refine xaload_n C 3 rfl dX6_layLow_128 ?_
                        refine xiload C 0 rfl dX6_layLow_129 ?_
                        refine ma_st C hW j h8 hj hD2 (klb K k) (by omega) dX6_layLow_131 ?_
                        have fb131 := (hD2 (klb K k) (by omega)).2
                        refine xiconst (v := nI 1) C dX6_layLow_132 (by decide) ?_
                        refine xisub C dX6_layLow_133 ?_
                        refine xtopi (y := nI (f2 (klb K k) - 1)) (pk_sub (by omega)) ?_
                        refine ms_st C j h8 hj (kla K k) (by omega) dX6_layLow_134 ?_
                        obtain ⟨f3, ef3⟩ : ∃ z : Nat → Nat, z = va_up f2 (kla K k) (f2 (klb K k) - 1) := ⟨_, rfl⟩
                        obtain ⟨FE3, eFE3⟩ : ∃ z : Nat → Nat → Int32, z = va_up FD j (upd (FD j) (kla K k) (nI (f2 (klb K k) - 1))) := ⟨_, rfl⟩
                        refine xworld (ws' := WM b t I FE3) (by rw [eFE3]) ?_
                        have hI3 : LIv K f3 := by rw [ef3]; exact hIv2.up hW (by omega) (by omega) (adj_ab h93) (lk_ne hW h93) (by omega)
                        have hR3 : RA (kn K) (FE3 j) f3 := by rw [eFE3, va_up_self, ef3]; exact hD2.up (by omega)
                        have hX3 : (∀ q, q ≠ j → FE3 q = F q) := fun q hq => by rw [eFE3, va_up_ne _ _ hq]; exact hXD q hq
                        have hK3 : CFG K I FE3 := hK.of (fun _ _ => rfl) (fun q hq => hX3 q (by omega))
                        have hs3 : sm (fun p => 5 - f3 p) (kn K) < sm (fun p => 5 - f2 p) (kn K) := by rw [ef3]; exact sm_gt (by omega) (by omega) (by have := (hD2 (klb K k) (by omega)).2; omega)
                        refine xiconst (v := nI 1) C dX6_layLow_135 (by decide) ?_
                        refine xistore_n (lv' := [(2, .int (nI 1)), (5, .int (nI (klb K k))), (4, .int (nI (kla K k))), (0, .ref (b 0)), (1, .ref (b j)), (3, .int (nI k))]) C dX6_layLow_136 (by decide) rfl ?_
                        refine xaload_n C 4 rfl dX6_layLow_137 ?_
                        refine xiload C 1 rfl dX6_layLow_138 ?_
                        refine ma_st C hW j h8 hj hR3 (klb K k) (by omega) dX6_layLow_140 ?_
                        have fb140 := (hR3 (klb K k) (by omega)).2
                        refine xaload_n C 4 rfl dX6_layLow_141 ?_
                        refine xiload C 2 rfl dX6_layLow_142 ?_
                        refine ma_st C hW j h8 hj hR3 (kla K k) (by omega) dX6_layLow_144 ?_
                        have fb144 := (hR3 (kla K k) (by omega)).2
                        refine xiconst (v := nI 1) C dX6_layLow_145 (by decide) ?_
                        refine xisub C dX6_layLow_146 ?_
                        refine xicmp_ge C 162 dX6_layLow_147 (by decide) (fun h147 => ?_) (fun h147 => ?_)
                        ·
                          have h147 := ngm1 (by omega) (by omega) h147
                          refine xiincN (lv' := [(3, .int (nI (k + 1))), (2, .int (nI 1)), (5, .int (nI (klb K k))), (4, .int (nI (kla K k))), (0, .ref (b 0)), (1, .ref (b j))]) C 5 rfl dX6_layLow_162 (by decide) rfl ?_
                          refine xgoto C 88 dX6_layLow_165 (by decide) ?_
                          refine xsub [4, 5, 1, 0] rfl ?_
                          exact ih88 (k + 1) 1 f3 FE3 (by omega) (Or.inr ⟨rfl, by rcases hD with ⟨e1, e2, e3⟩ | ⟨e1, e2⟩; (subst e2; omega); omega⟩) hI3 hR3 hX3 (by omega)
                        ·
                          have h147 := gm1 (by omega) (by omega) h147
                          refine xaload_n C 4 rfl dX6_layLow_150 ?_
                          refine xiload C 1 rfl dX6_layLow_151 ?_
                          refine xaload_n C 4 rfl dX6_layLow_153 ?_
                          refine xiload C 2 rfl dX6_layLow_154 ?_
                          refine ma_st C hW j h8 hj hR3 (kla K k) (by omega) dX6_layLow_156 ?_
                          have fb156 := (hR3 (kla K k) (by omega)).2
                          refine xiconst (v := nI 1) C dX6_layLow_157 (by decide) ?_
                          refine xisub C dX6_layLow_158 ?_
                          refine xtopi (y := nI (f3 (kla K k) - 1)) (pk_sub (by omega)) ?_
                          refine ms_st C j h8 hj (klb K k) (by omega) dX6_layLow_159 ?_
                          obtain ⟨f4, ef4⟩ : ∃ z : Nat → Nat, z = va_up f3 (klb K k) (f3 (kla K k) - 1) := ⟨_, rfl⟩
                          obtain ⟨FE4, eFE4⟩ : ∃ z : Nat → Nat → Int32, z = va_up FE3 j (upd (FE3 j) (klb K k) (nI (f3 (kla K k) - 1))) := ⟨_, rfl⟩
                          refine xworld (ws' := WM b t I FE4) (by rw [eFE4]) ?_
                          have hI4 : LIv K f4 := by rw [ef4]; exact hI3.up hW (by omega) (by omega) (adj_ba h93) (lk_ne hW h93).symm (by omega)
                          have hR4 : RA (kn K) (FE4 j) f4 := by rw [eFE4, va_up_self, ef4]; exact hR3.up (by omega)
                          have hX4 : (∀ q, q ≠ j → FE4 q = F q) := fun q hq => by rw [eFE4, va_up_ne _ _ hq]; exact hX3 q hq
                          have hK4 : CFG K I FE4 := hK.of (fun _ _ => rfl) (fun q hq => hX4 q (by omega))
                          have hs4 : sm (fun p => 5 - f4 p) (kn K) < sm (fun p => 5 - f3 p) (kn K) := by rw [ef4]; exact sm_gt (by omega) (by omega) (by have := (hR3 (kla K k) (by omega)).2; omega)
                          refine xiconst (v := nI 1) C dX6_layLow_160 (by decide) ?_
                          refine xistore_n (lv' := [(2, .int (nI 1)), (5, .int (nI (klb K k))), (4, .int (nI (kla K k))), (0, .ref (b 0)), (1, .ref (b j)), (3, .int (nI k))]) C dX6_layLow_161 (by decide) rfl ?_
                          refine xiincN (lv' := [(3, .int (nI (k + 1))), (2, .int (nI 1)), (5, .int (nI (klb K k))), (4, .int (nI (kla K k))), (0, .ref (b 0)), (1, .ref (b j))]) C 5 rfl dX6_layLow_162 (by decide) rfl ?_
                          refine xgoto C 88 dX6_layLow_165 (by decide) ?_
                          refine xsub [4, 5, 1, 0] rfl ?_
                          exact ih88 (k + 1) 1 f4 FE4 (by omega) (Or.inr ⟨rfl, by rcases hD with ⟨e1, e2, e3⟩ | ⟨e1, e2⟩; (subst e2; omega); omega⟩) hI4 hR4 hX4 (by omega)
                refine xsub [2, 3, 1, 0] rfl ?_
                exact LP88 _ 0 0 f FC (Nat.zero_le _) (Or.inl ⟨rfl, rfl, fun x h => absurd h (Nat.not_lt_zero _)⟩) hIv hC hXC (Nat.lt_succ_self _)
          refine xsub [1, 2, 0] rfl ?_
          exact LP80 _ 1 (l0 K) FA (Or.inl rfl) (LIv.start hW) hA hXA (Nat.lt_succ_self _)
      ·
        refine xaload_n C 1 rfl dX6_layLow_10 ?_
        refine xiload_n C 2 rfl dX6_layLow_11 ?_
        refine xaload_n C 0 rfl dX6_layLow_12 ?_
        refine gX6_90K C hKA dX6_layLow_13 ?_
        refine xif_neN C 23 dX6_layLow_16 (by decide) (by omega) (fun h16 => ?_) (fun h16 => ?_)
        ·
          refine xaload_n C 0 rfl dX6_layLow_23 ?_
          refine gX6_90K C hKA dX6_layLow_24 ?_
          refine xiconst (v := nI 2) C dX6_layLow_27 (by decide) ?_
          refine xicmp_neN C 40 dX6_layLow_28 (by decide) (by omega) (by omega) (fun h28 => ?_) (fun h28 => ?_)
          ·
            refine xaload_n C 0 rfl dX6_layLow_40 ?_
            refine gX6_16 C dX6_layLow_41 ?_
            refine xiload_n C 2 rfl dX6_layLow_44 ?_
            refine ma_hd C hKA hW i (by omega) dX6_layLow_45 ?_
            have fb45 := (hW.hd6 (by omega))
            refine xif_lt C 58 dX6_layLow_46 (by decide) (fun h46 => ?_) (fun h46 => ?_)
            ·
              refine xiconst (v := nI 0) C dX6_layLow_58 (by decide) ?_
              refine xtopi (y := nI (l0 K i)) (by rw [l0_h0 (by omega) (by omega) h46]) ?_
              refine ms_st C j h8 hj i (by omega) dX6_layLow_59 ?_
              obtain ⟨FB, eFB⟩ : ∃ z : Nat → Nat → Int32, z = va_up FA j (upd (FA j) i (nI (l0 K i))) := ⟨_, rfl⟩
              refine xworld (ws' := WM b t I FB) (by rw [eFB]) ?_
              refine xiincN (lv' := [(2, .int (nI (i + 1))), (0, .ref (b 0)), (1, .ref (b j))]) C 2 rfl dX6_layLow_60 (by decide) rfl ?_
              refine xgoto C 2 dX6_layLow_63 (by decide) ?_
              refine xsub [1, 2, 0] rfl ?_
              exact ih2 (i + 1) FB (by omega) (fun q hq => by rw [eFB, va_up_ne _ _ hq]; exact hXA q hq) (by rw [eFB, va_up_self]; exact hA.snoc (l0_le hW (by omega))) (by omega)
            ·
              refine xaload_n C 0 rfl dX6_layLow_49 ?_
              refine gX6_16 C dX6_layLow_50 ?_
              refine xiload_n C 2 rfl dX6_layLow_53 ?_
              refine ma_hd C hKA hW i (by omega) dX6_layLow_54 ?_
              have fb54 := (hW.hd6 (by omega))
              refine xgoto C 59 dX6_layLow_55 (by decide) ?_
              refine xtopi (y := nI (l0 K i)) (l0_h1 (by omega) (by omega) h46) ?_
              refine ms_st C j h8 hj i (by omega) dX6_layLow_59 ?_
              obtain ⟨FB, eFB⟩ : ∃ z : Nat → Nat → Int32, z = va_up FA j (upd (FA j) i (nI (l0 K i))) := ⟨_, rfl⟩
              refine xworld (ws' := WM b t I FB) (by rw [eFB]) ?_
              refine xiincN (lv' := [(2, .int (nI (i + 1))), (0, .ref (b 0)), (1, .ref (b j))]) C 2 rfl dX6_layLow_60 (by decide) rfl ?_
              refine xgoto C 2 dX6_layLow_63 (by decide) ?_
              refine xsub [1, 2, 0] rfl ?_
              exact ih2 (i + 1) FB (by omega) (fun q hq => by rw [eFB, va_up_ne _ _ hq]; exact hXA q hq) (by rw [eFB, va_up_self]; exact hA.snoc (l0_le hW (by omega))) (by omega)
          ·
            refine xaload_n C 0 rfl dX6_layLow_31 ?_
            refine gX6_13 C dX6_layLow_32 ?_
            refine xiload_n C 2 rfl dX6_layLow_35 ?_
            refine ma_si C hKA hW i (by omega) dX6_layLow_36 ?_
            have fb36 := (hW.si1 (by omega))
            refine xgoto C 59 dX6_layLow_37 (by decide) ?_
            refine xtopi (y := nI (l0 K i)) (by rw [l0_k2 h28 (by omega)]) ?_
            refine ms_st C j h8 hj i (by omega) dX6_layLow_59 ?_
            obtain ⟨FB, eFB⟩ : ∃ z : Nat → Nat → Int32, z = va_up FA j (upd (FA j) i (nI (l0 K i))) := ⟨_, rfl⟩
            refine xworld (ws' := WM b t I FB) (by rw [eFB]) ?_
            refine xiincN (lv' := [(2, .int (nI (i + 1))), (0, .ref (b 0)), (1, .ref (b j))]) C 2 rfl dX6_layLow_60 (by decide) rfl ?_
            refine xgoto C 2 dX6_layLow_63 (by decide) ?_
            refine xsub [1, 2, 0] rfl ?_
            exact ih2 (i + 1) FB (by omega) (fun q hq => by rw [eFB, va_up_ne _ _ hq]; exact hXA q hq) (by rw [eFB, va_up_self]; exact hA.snoc (l0_le hW (by omega))) (by omega)
        ·
          refine xiconst (v := nI 0) C dX6_layLow_19 (by decide) ?_
          refine xgoto C 59 dX6_layLow_20 (by decide) ?_
          refine xtopi (y := nI (l0 K i)) (by rw [l0_k0 h16]) ?_
          refine ms_st C j h8 hj i (by omega) dX6_layLow_59 ?_
          obtain ⟨FB, eFB⟩ : ∃ z : Nat → Nat → Int32, z = va_up FA j (upd (FA j) i (nI (l0 K i))) := ⟨_, rfl⟩
          refine xworld (ws' := WM b t I FB) (by rw [eFB]) ?_
          refine xiincN (lv' := [(2, .int (nI (i + 1))), (0, .ref (b 0)), (1, .ref (b j))]) C 2 rfl dX6_layLow_60 (by decide) rfl ?_
          refine xgoto C 2 dX6_layLow_63 (by decide) ?_
          refine xsub [1, 2, 0] rfl ?_
          exact ih2 (i + 1) FB (by omega) (fun q hq => by rw [eFB, va_up_ne _ _ hq]; exact hXA q hq) (by rw [eFB, va_up_self]; exact hA.snoc (l0_le hW (by omega))) (by omega)
  refine xsub [1, 2, 0] rfl ?_
  exact LP2 _ 0 F (Nat.zero_le _) (fun _ _ => rfl) (fun p h => absurd h (Nat.not_lt_zero _)) (Nat.lt_succ_self _)
theorem dX6_isGood_0 : decode cX6_isGood 0 = .ok (.aload_n 0, 1) := by decide +kernel
theorem dX6_isGood_1 : decode cX6_isGood 1 = .ok (.getfield 53, 3) := by decide +kernel
theorem dX6_isGood_4 : decode cX6_isGood 4 = .ok (.ifCond .le 7, 3) := by decide +kernel
theorem dX6_isGood_7 : decode cX6_isGood 7 = .ok (.iconst 1, 1) := by decide +kernel
theorem dX6_isGood_8 : decode cX6_isGood 8 = .ok (.goto 4, 3) := by decide +kernel
theorem dX6_isGood_11 : decode cX6_isGood 11 = .ok (.iconst 0, 1) := by decide +kernel
theorem dX6_isGood_12 : decode cX6_isGood 12 = .ok (.istore_n 1, 1) := by decide +kernel
theorem dX6_isGood_13 : decode cX6_isGood 13 = .ok (.aload_n 0, 1) := by decide +kernel
theorem dX6_isGood_14 : decode cX6_isGood 14 = .ok (.getfield 90, 3) := by decide +kernel
theorem dX6_isGood_17 : decode cX6_isGood 17 = .ok (.ifCond .ne 24, 3) := by decide +kernel
theorem dX6_isGood_20 : decode cX6_isGood 20 = .ok (.iload_n 1, 1) := by decide +kernel
theorem dX6_isGood_21 : decode cX6_isGood 21 = .ok (.ifCond .eq 18, 3) := by decide +kernel
theorem dX6_isGood_24 : decode cX6_isGood 24 = .ok (.aload_n 0, 1) := by decide +kernel
theorem dX6_isGood_25 : decode cX6_isGood 25 = .ok (.getfield 31, 3) := by decide +kernel
theorem dX6_isGood_28 : decode cX6_isGood 28 = .ok (.aload_n 0, 1) := by decide +kernel
theorem dX6_isGood_29 : decode cX6_isGood 29 = .ok (.getfield 35, 3) := by decide +kernel
theorem dX6_isGood_32 : decode cX6_isGood 32 = .ok (.if_icmp .lt 7, 3) := by decide +kernel
theorem dX6_isGood_35 : decode cX6_isGood 35 = .ok (.iconst 1, 1) := by decide +kernel
theorem dX6_isGood_36 : decode cX6_isGood 36 = .ok (.goto 4, 3) := by decide +kernel
theorem dX6_isGood_39 : decode cX6_isGood 39 = .ok (.iconst 0, 1) := by decide +kernel
theorem dX6_isGood_40 : decode cX6_isGood 40 = .ok (.ireturn, 1) := by decide +kernel
theorem dX6_isGood_41 : decode cX6_isGood 41 = .ok (.aload_n 0, 1) := by decide +kernel
theorem dX6_isGood_42 : decode cX6_isGood 42 = .ok (.getfield 90, 3) := by decide +kernel
theorem dX6_isGood_45 : decode cX6_isGood 45 = .ok (.iconst 2, 1) := by decide +kernel
theorem dX6_isGood_46 : decode cX6_isGood 46 = .ok (.if_icmp .ne 56, 3) := by decide +kernel
theorem dX6_isGood_49 : decode cX6_isGood 49 = .ok (.iconst 0, 1) := by decide +kernel
theorem dX6_isGood_50 : decode cX6_isGood 50 = .ok (.istore_n 2, 1) := by decide +kernel
theorem dX6_isGood_51 : decode cX6_isGood 51 = .ok (.iload_n 2, 1) := by decide +kernel
theorem dX6_isGood_52 : decode cX6_isGood 52 = .ok (.aload_n 0, 1) := by decide +kernel
theorem dX6_isGood_53 : decode cX6_isGood 53 = .ok (.getfield 79, 3) := by decide +kernel
theorem dX6_isGood_56 : decode cX6_isGood 56 = .ok (.if_icmp .ge 44, 3) := by decide +kernel
theorem dX6_isGood_59 : decode cX6_isGood 59 = .ok (.iload_n 1, 1) := by decide +kernel
theorem dX6_isGood_60 : decode cX6_isGood 60 = .ok (.ifCond .eq 32, 3) := by decide +kernel
theorem dX6_isGood_63 : decode cX6_isGood 63 = .ok (.aload_n 0, 1) := by decide +kernel
theorem dX6_isGood_64 : decode cX6_isGood 64 = .ok (.getfield 13, 3) := by decide +kernel
theorem dX6_isGood_67 : decode cX6_isGood 67 = .ok (.aload_n 0, 1) := by decide +kernel
theorem dX6_isGood_68 : decode cX6_isGood 68 = .ok (.getfield 25, 3) := by decide +kernel
theorem dX6_isGood_71 : decode cX6_isGood 71 = .ok (.iload_n 2, 1) := by decide +kernel
theorem dX6_isGood_72 : decode cX6_isGood 72 = .ok (.iaload, 1) := by decide +kernel
theorem dX6_isGood_73 : decode cX6_isGood 73 = .ok (.iaload, 1) := by decide +kernel
theorem dX6_isGood_74 : decode cX6_isGood 74 = .ok (.aload_n 0, 1) := by decide +kernel
theorem dX6_isGood_75 : decode cX6_isGood 75 = .ok (.getfield 13, 3) := by decide +kernel
theorem dX6_isGood_78 : decode cX6_isGood 78 = .ok (.aload_n 0, 1) := by decide +kernel
theorem dX6_isGood_79 : decode cX6_isGood 79 = .ok (.getfield 28, 3) := by decide +kernel
theorem dX6_isGood_82 : decode cX6_isGood 82 = .ok (.iload_n 2, 1) := by decide +kernel
theorem dX6_isGood_83 : decode cX6_isGood 83 = .ok (.iaload, 1) := by decide +kernel
theorem dX6_isGood_84 : decode cX6_isGood 84 = .ok (.iaload, 1) := by decide +kernel
theorem dX6_isGood_85 : decode cX6_isGood 85 = .ok (.if_icmp .eq 7, 3) := by decide +kernel
theorem dX6_isGood_88 : decode cX6_isGood 88 = .ok (.iconst 1, 1) := by decide +kernel
theorem dX6_isGood_89 : decode cX6_isGood 89 = .ok (.goto 4, 3) := by decide +kernel
theorem dX6_isGood_92 : decode cX6_isGood 92 = .ok (.iconst 0, 1) := by decide +kernel
theorem dX6_isGood_93 : decode cX6_isGood 93 = .ok (.istore_n 1, 1) := by decide +kernel
theorem dX6_isGood_94 : decode cX6_isGood 94 = .ok (.iinc 2 1, 3) := by decide +kernel
theorem dX6_isGood_97 : decode cX6_isGood 97 = .ok (.goto (-46), 3) := by decide +kernel
theorem dX6_isGood_100 : decode cX6_isGood 100 = .ok (.iload_n 1, 1) := by decide +kernel
theorem dX6_isGood_101 : decode cX6_isGood 101 = .ok (.ireturn, 1) := by decide +kernel
theorem dX6_isGood_102 : decode cX6_isGood 102 = .ok (.aload_n 0, 1) := by decide +kernel
theorem dX6_isGood_103 : decode cX6_isGood 103 = .ok (.aload_n 0, 1) := by decide +kernel
theorem dX6_isGood_104 : decode cX6_isGood 104 = .ok (.getfield 50, 3) := by decide +kernel
theorem dX6_isGood_107 : decode cX6_isGood 107 = .ok (.invokevirtual 93, 3) := by decide +kernel
theorem dX6_isGood_110 : decode cX6_isGood 110 = .ok (.iconst 0, 1) := by decide +kernel
theorem dX6_isGood_111 : decode cX6_isGood 111 = .ok (.istore_n 2, 1) := by decide +kernel
theorem dX6_isGood_112 : decode cX6_isGood 112 = .ok (.iload_n 2, 1) := by decide +kernel
theorem dX6_isGood_113 : decode cX6_isGood 113 = .ok (.aload_n 0, 1) := by decide +kernel
theorem dX6_isGood_114 : decode cX6_isGood 114 = .ok (.getfield 53, 3) := by decide +kernel
theorem dX6_isGood_117 : decode cX6_isGood 117 = .ok (.if_icmp .ge 43, 3) := by decide +kernel
theorem dX6_isGood_120 : decode cX6_isGood 120 = .ok (.iload_n 1, 1) := by decide +kernel
theorem dX6_isGood_121 : decode cX6_isGood 121 = .ok (.ifCond .eq 31, 3) := by decide +kernel
theorem dX6_isGood_124 : decode cX6_isGood 124 = .ok (.aload_n 0, 1) := by decide +kernel
theorem dX6_isGood_125 : decode cX6_isGood 125 = .ok (.getfield 16, 3) := by decide +kernel
theorem dX6_isGood_128 : decode cX6_isGood 128 = .ok (.iload_n 2, 1) := by decide +kernel
theorem dX6_isGood_129 : decode cX6_isGood 129 = .ok (.iaload, 1) := by decide +kernel
theorem dX6_isGood_130 : decode cX6_isGood 130 = .ok (.ifCond .lt 18, 3) := by decide +kernel
theorem dX6_isGood_133 : decode cX6_isGood 133 = .ok (.aload_n 0, 1) := by decide +kernel
theorem dX6_isGood_134 : decode cX6_isGood 134 = .ok (.getfield 50, 3) := by decide +kernel
theorem dX6_isGood_137 : decode cX6_isGood 137 = .ok (.iload_n 2, 1) := by decide +kernel
theorem dX6_isGood_138 : decode cX6_isGood 138 = .ok (.iaload, 1) := by decide +kernel
theorem dX6_isGood_139 : decode cX6_isGood 139 = .ok (.aload_n 0, 1) := by decide +kernel
theorem dX6_isGood_140 : decode cX6_isGood 140 = .ok (.getfield 16, 3) := by decide +kernel
theorem dX6_isGood_143 : decode cX6_isGood 143 = .ok (.iload_n 2, 1) := by decide +kernel
theorem dX6_isGood_144 : decode cX6_isGood 144 = .ok (.iaload, 1) := by decide +kernel
theorem dX6_isGood_145 : decode cX6_isGood 145 = .ok (.if_icmp .ne 7, 3) := by decide +kernel
theorem dX6_isGood_148 : decode cX6_isGood 148 = .ok (.iconst 1, 1) := by decide +kernel
theorem dX6_isGood_149 : decode cX6_isGood 149 = .ok (.goto 4, 3) := by decide +kernel
theorem dX6_isGood_152 : decode cX6_isGood 152 = .ok (.iconst 0, 1) := by decide +kernel
theorem dX6_isGood_153 : decode cX6_isGood 153 = .ok (.istore_n 1, 1) := by decide +kernel
theorem dX6_isGood_154 : decode cX6_isGood 154 = .ok (.iinc 2 1, 3) := by decide +kernel
theorem dX6_isGood_157 : decode cX6_isGood 157 = .ok (.goto (-45), 3) := by decide +kernel
theorem dX6_isGood_160 : decode cX6_isGood 160 = .ok (.iload_n 1, 1) := by decide +kernel
theorem dX6_isGood_161 : decode cX6_isGood 161 = .ok (.ireturn, 1) := by decide +kernel
def rX6_isGood : Room := { frames := 1, cells := 0, slots := 0, locals := 25 }
theorem yk_X6_isGood : YK yX6_isGood cX6_isGood 3 (some .boolean) 0 := ⟨xim_X6_isGood, xse_X6_isGood, xin_X6, xco_X6_isGood, by decide +kernel⟩
set_option maxRecDepth 4000 in
theorem c_X6_isGood {l : Launch} {D : va_G} {t : Nat → ClassId} {b : Nat → Nat} {I : Nat → Int32} {F : Nat → Nat → Int32} {K : Cfg} (hK : CFG K I F) (hW : WFK K)  : CT l D t yX6_isGood cX6_isGood 3 (some .boolean) rX6_isGood 0 0 [.ref (b 0)] (WM b t I F) (EP (fun v w => v = .int (nI (bn (GoodP K))) ∧ ∃ F' : Nat → Nat → Int32, w = WM b t I F' ∧ ∀ q, q ≠ 11 → F' q = F q)) := by
  refine CT.of (by decide +kernel) (by simp [lg_sl, Value.category]) (fun X C hR => ?_)
  refine xlocals (lv' := [(0, .ref (b 0))]) rfl ?_
  have fn24 := hW.n24; have fm60 := hW.m60; have fk2 := hW.k2; have fu1 := hW.u1; have fu9 := hW.u9; have fv1 := hW.v1; have fv9 := hW.v9
  refine xaload_n C 0 rfl dX6_isGood_0 ?_
  refine gX6_53K C hK dX6_isGood_1 ?_
  refine xif_leN C 11 dX6_isGood_4 (by decide) (by omega) (fun h4 => ?_) (fun h4 => ?_)
  ·
    refine xiconst (v := nI 0) C dX6_isGood_11 (by decide) ?_
    refine xistore_n (lv' := [(1, .int (nI 0)), (0, .ref (b 0))]) C dX6_isGood_12 (by decide) rfl ?_
    refine xlocals (lv' := [(1, .int (nI (bn (0 < kn K)))), (0, .ref (b 0))]) (by rw [bn_f (P := 0 < kn K) (by omega)]) ?_
    refine xaload_n C 1 rfl dX6_isGood_13 ?_
    refine gX6_90K C hK dX6_isGood_14 ?_
    refine xif_neN C 41 dX6_isGood_17 (by decide) (by omega) (fun h17 => ?_) (fun h17 => ?_)
    ·
      refine xaload_n C 1 rfl dX6_isGood_41 ?_
      refine gX6_90K C hK dX6_isGood_42 ?_
      refine xiconst (v := nI 2) C dX6_isGood_45 (by decide) ?_
      refine xicmp_neN C 102 dX6_isGood_46 (by decide) (by omega) (by omega) (fun h46 => ?_) (fun h46 => ?_)
      ·
        refine xaload_n C 1 rfl dX6_isGood_102 ?_
        refine xaload_n C 1 rfl dX6_isGood_103 ?_
        refine gX6_50 C dX6_isGood_104 ?_
        refine xcVV C (c_X6_layHigh hK hW 11 (by decide) (by decide)) yk_X6_layHigh 0 rfl rfl xml_X6_93 ⟨⟨Nat.le_of_ble_eq_true rfl, Nat.le_of_ble_eq_true rfl⟩, ⟨rfl, rfl⟩, ⟨Nat.zero_le _, Nat.zero_le _⟩⟩ rfl (Nat.le_of_ble_eq_true rfl) dX6_isGood_107 (fun wE hE => ?_)
        obtain ⟨FA, rfl, hXA, hHA, hfe⟩ := hE
        have hKA : CFG K I FA := hK.of (fun _ _ => rfl) (fun q hq => hXA q (by omega))
        refine xiconst (v := nI 0) C dX6_isGood_110 (by decide) ?_
        refine xistore_n (lv' := [(2, .int (nI 0)), (1, .int (nI (bn (0 < kn K)))), (0, .ref (b 0))]) C dX6_isGood_111 (by decide) rfl ?_
        refine xlocals (lv' := [(2, .int (nI 0)), (1, .int (nI (bn (0 < kn K ∧ ∀ x, x < 0 → khd K x = 0 ∨ hS K x + 1 = khd K x)))), (0, .ref (b 0))]) (by rw [bn_iff (show (0 < kn K ∧ ∀ x, x < 0 → khd K x = 0 ∨ hS K x + 1 = khd K x) ↔ 0 < kn K from ⟨fun q => q.1, fun q => ⟨q, fun x h => absurd h (Nat.not_lt_zero _)⟩⟩)]) ?_
        have LP112 : ∀ (fu112 : Nat) (i : Nat) (hi : i ≤ kn K), kn K - i < fu112 → XW X 0 0 (WM b t I FA) [(0, .ref (b 0)), (1, .int (nI (bn (0 < kn K ∧ ∀ x, x < i → khd K x = 0 ∨ hS K x + 1 = khd K x)))), (2, .int (nI i))] 112 [] := by
          intro fu112
          induction fu112 with
          | zero => intro i hi hm112; exact absurd hm112 (Nat.not_lt_zero _)
          | succ fu112 ih112 =>
            intro i hi hm112
            refine xiload_n C 2 rfl dX6_isGood_112 ?_
            refine xaload_n C 0 rfl dX6_isGood_113 ?_
            refine gX6_53K C hKA dX6_isGood_114 ?_
            refine xicmp_geN C 160 dX6_isGood_117 (by decide) (by omega) (by omega) (fun h117 => ?_) (fun h117 => ?_)
            ·
              refine xiload_n C 1 rfl dX6_isGood_160 ?_
              exact xret C hR (nar_bn _) dX6_isGood_161 (⟨_, rfl, by rw [bn_iff (good1 hW (show kk K = 1 by omega) (show i = kn K by omega) hfe)], FA, rfl, hXA⟩)
            ·
              refine xiload_n C 1 rfl dX6_isGood_120 ?_
              refine xif_eqN C 152 dX6_isGood_121 (by decide) (bn_lt _) (fun h121 => ?_) (fun h121 => ?_)
              ·
                refine xiconst (v := nI 0) C dX6_isGood_152 (by decide) ?_
                refine xtopi (y := nI (bn (0 < kn K ∧ ∀ x, x < (i + 1) → khd K x = 0 ∨ hS K x + 1 = khd K x))) (by rw [bn_f (fun q => bn_0 h121 ⟨q.1, fun x hx => q.2 x (by omega)⟩)]) ?_
                refine xistore_n (lv' := [(1, .int (nI (bn (0 < kn K ∧ ∀ x, x < (i + 1) → khd K x = 0 ∨ hS K x + 1 = khd K x)))), (0, .ref (b 0)), (2, .int (nI i))]) C dX6_isGood_153 (by decide) rfl ?_
                refine xiincN (lv' := [(2, .int (nI (i + 1))), (1, .int (nI (bn (0 < kn K ∧ ∀ x, x < (i + 1) → khd K x = 0 ∨ hS K x + 1 = khd K x)))), (0, .ref (b 0))]) C 2 rfl dX6_isGood_154 (by decide) rfl ?_
                refine xgoto C 112 dX6_isGood_157 (by decide) ?_
                refine xsub [2, 1, 0] rfl ?_
                exact ih112 (i + 1) (by omega) (by omega)
              ·
                refine xaload_n C 0 rfl dX6_isGood_124 ?_
                refine gX6_16 C dX6_isGood_125 ?_
                refine xiload_n C 2 rfl dX6_isGood_128 ?_
                refine ma_hd C hKA hW i (by omega) dX6_isGood_129 ?_
                have fb129 := (hW.hd6 (by omega))
                refine xif_lt C 148 dX6_isGood_130 (by decide) (fun h130 => ?_) (fun h130 => ?_)
                ·
                  refine xiconst (v := nI 1) C dX6_isGood_148 (by decide) ?_
                  refine xgoto C 153 dX6_isGood_149 (by decide) ?_
                  refine xtopi (y := nI (bn (0 < kn K ∧ ∀ x, x < (i + 1) → khd K x = 0 ∨ hS K x + 1 = khd K x))) (by rw [bn_t ⟨(bn_1 h121).1, lt_s (bn_1 h121).2 (Or.inl (hdl (by omega) h130))⟩]) ?_
                  refine xistore_n (lv' := [(1, .int (nI (bn (0 < kn K ∧ ∀ x, x < (i + 1) → khd K x = 0 ∨ hS K x + 1 = khd K x)))), (0, .ref (b 0)), (2, .int (nI i))]) C dX6_isGood_153 (by decide) rfl ?_
                  refine xiincN (lv' := [(2, .int (nI (i + 1))), (1, .int (nI (bn (0 < kn K ∧ ∀ x, x < (i + 1) → khd K x = 0 ∨ hS K x + 1 = khd K x)))), (0, .ref (b 0))]) C 2 rfl dX6_isGood_154 (by decide) rfl ?_
                  refine xgoto C 112 dX6_isGood_157 (by decide) ?_
                  refine xsub [2, 1, 0] rfl ?_
                  exact ih112 (i + 1) (by omega) (by omega)
                ·
                  refine xaload_n C 0 rfl dX6_isGood_133 ?_
                  refine gX6_50 C dX6_isGood_134 ?_
                  refine xiload_n C 2 rfl dX6_isGood_137 ?_
                  refine ma_st C hW 11 (by decide) (by decide) hHA i (by omega) dX6_isGood_138 ?_
                  have fb138 := (hHA i (by omega)).2
                  refine xaload_n C 0 rfl dX6_isGood_139 ?_
                  refine gX6_16 C dX6_isGood_140 ?_
                  refine xiload_n C 2 rfl dX6_isGood_143 ?_
                  refine ma_hd C hKA hW i (by omega) dX6_isGood_144 ?_
                  have fb144 := (hW.hd6 (by omega))
                  refine xicmp_ne C 152 dX6_isGood_145 (by decide) (fun h145 => ?_) (fun h145 => ?_)
                  ·
                    refine xiconst (v := nI 0) C dX6_isGood_152 (by decide) ?_
                    refine xtopi (y := nI (bn (0 < kn K ∧ ∀ x, x < (i + 1) → khd K x = 0 ∨ hS K x + 1 = khd K x))) (by rw [bn_f (fun q => (q.2 i (by omega)).elim (hdnl (by omega) h130) (fun e => h145 (hdx2 e)))]) ?_
                    refine xistore_n (lv' := [(1, .int (nI (bn (0 < kn K ∧ ∀ x, x < (i + 1) → khd K x = 0 ∨ hS K x + 1 = khd K x)))), (0, .ref (b 0)), (2, .int (nI i))]) C dX6_isGood_153 (by decide) rfl ?_
                    refine xiincN (lv' := [(2, .int (nI (i + 1))), (1, .int (nI (bn (0 < kn K ∧ ∀ x, x < (i + 1) → khd K x = 0 ∨ hS K x + 1 = khd K x)))), (0, .ref (b 0))]) C 2 rfl dX6_isGood_154 (by decide) rfl ?_
                    refine xgoto C 112 dX6_isGood_157 (by decide) ?_
                    refine xsub [2, 1, 0] rfl ?_
                    exact ih112 (i + 1) (by omega) (by omega)
                  ·
                    refine xiconst (v := nI 1) C dX6_isGood_148 (by decide) ?_
                    refine xgoto C 153 dX6_isGood_149 (by decide) ?_
                    refine xtopi (y := nI (bn (0 < kn K ∧ ∀ x, x < (i + 1) → khd K x = 0 ∨ hS K x + 1 = khd K x))) (by rw [bn_t ⟨(bn_1 h121).1, lt_s (bn_1 h121).2 (Or.inr (hdx (by omega) (by omega) h145))⟩]) ?_
                    refine xistore_n (lv' := [(1, .int (nI (bn (0 < kn K ∧ ∀ x, x < (i + 1) → khd K x = 0 ∨ hS K x + 1 = khd K x)))), (0, .ref (b 0)), (2, .int (nI i))]) C dX6_isGood_153 (by decide) rfl ?_
                    refine xiincN (lv' := [(2, .int (nI (i + 1))), (1, .int (nI (bn (0 < kn K ∧ ∀ x, x < (i + 1) → khd K x = 0 ∨ hS K x + 1 = khd K x)))), (0, .ref (b 0))]) C 2 rfl dX6_isGood_154 (by decide) rfl ?_
                    refine xgoto C 112 dX6_isGood_157 (by decide) ?_
                    refine xsub [2, 1, 0] rfl ?_
                    exact ih112 (i + 1) (by omega) (by omega)
        refine xsub [2, 1, 0] rfl ?_
        exact LP112 _ 0 (Nat.zero_le _) (Nat.lt_succ_self _)
      ·
        refine xiconst (v := nI 0) C dX6_isGood_49 (by decide) ?_
        refine xistore_n (lv' := [(2, .int (nI 0)), (1, .int (nI (bn (0 < kn K)))), (0, .ref (b 0))]) C dX6_isGood_50 (by decide) rfl ?_
        refine xlocals (lv' := [(2, .int (nI 0)), (1, .int (nI (bn (0 < kn K ∧ ∀ x, x < 0 → ksi K (kla K x) ≠ ksi K (klb K x))))), (0, .ref (b 0))]) (by rw [bn_iff (show (0 < kn K ∧ ∀ x, x < 0 → ksi K (kla K x) ≠ ksi K (klb K x)) ↔ 0 < kn K from ⟨fun q => q.1, fun q => ⟨q, fun x h => absurd h (Nat.not_lt_zero _)⟩⟩)]) ?_
        have LP51 : ∀ (fu51 : Nat) (k : Nat) (hk : k ≤ km K), km K - k < fu51 → XW X 0 0 (WM b t I F) [(0, .ref (b 0)), (1, .int (nI (bn (0 < kn K ∧ ∀ x, x < k → ksi K (kla K x) ≠ ksi K (klb K x))))), (2, .int (nI k))] 51 [] := by
          intro fu51
          induction fu51 with
          | zero => intro k hk hm51; exact absurd hm51 (Nat.not_lt_zero _)
          | succ fu51 ih51 =>
            intro k hk hm51
            refine xiload_n C 2 rfl dX6_isGood_51 ?_
            refine xaload_n C 0 rfl dX6_isGood_52 ?_
            refine gX6_79K C hK dX6_isGood_53 ?_
            refine xicmp_geN C 100 dX6_isGood_56 (by decide) (by omega) (by omega) (fun h56 => ?_) (fun h56 => ?_)
            ·
              refine xiload_n C 1 rfl dX6_isGood_100 ?_
              exact xret C hR (nar_bn _) dX6_isGood_101 (⟨_, rfl, by rw [bn_iff (good2 h46 (show k = km K by omega))], F, rfl, fun _ _ => rfl⟩)
            ·
              refine xiload_n C 1 rfl dX6_isGood_59 ?_
              refine xif_eqN C 92 dX6_isGood_60 (by decide) (bn_lt _) (fun h60 => ?_) (fun h60 => ?_)
              ·
                refine xiconst (v := nI 0) C dX6_isGood_92 (by decide) ?_
                refine xtopi (y := nI (bn (0 < kn K ∧ ∀ x, x < (k + 1) → ksi K (kla K x) ≠ ksi K (klb K x)))) (by rw [bn_f (fun q => bn_0 h60 ⟨q.1, fun x hx => q.2 x (by omega)⟩)]) ?_
                refine xistore_n (lv' := [(1, .int (nI (bn (0 < kn K ∧ ∀ x, x < (k + 1) → ksi K (kla K x) ≠ ksi K (klb K x))))), (0, .ref (b 0)), (2, .int (nI k))]) C dX6_isGood_93 (by decide) rfl ?_
                refine xiincN (lv' := [(2, .int (nI (k + 1))), (1, .int (nI (bn (0 < kn K ∧ ∀ x, x < (k + 1) → ksi K (kla K x) ≠ ksi K (klb K x))))), (0, .ref (b 0))]) C 2 rfl dX6_isGood_94 (by decide) rfl ?_
                refine xgoto C 51 dX6_isGood_97 (by decide) ?_
                refine xsub [2, 1, 0] rfl ?_
                exact ih51 (k + 1) (by omega) (by omega)
              ·
                refine xaload_n C 0 rfl dX6_isGood_63 ?_
                refine gX6_13 C dX6_isGood_64 ?_
                refine xaload_n C 0 rfl dX6_isGood_67 ?_
                refine gX6_25 C dX6_isGood_68 ?_
                refine xiload_n C 2 rfl dX6_isGood_71 ?_
                refine ma_la C hK hW k (by omega) dX6_isGood_72 ?_
                have fb72 := (hW.la (by omega))
                refine ma_si C hK hW (kla K k) (by omega) dX6_isGood_73 ?_
                have fb73 := (hW.si1 (by omega))
                refine xaload_n C 0 rfl dX6_isGood_74 ?_
                refine gX6_13 C dX6_isGood_75 ?_
                refine xaload_n C 0 rfl dX6_isGood_78 ?_
                refine gX6_28 C dX6_isGood_79 ?_
                refine xiload_n C 2 rfl dX6_isGood_82 ?_
                refine ma_lb C hK hW k (by omega) dX6_isGood_83 ?_
                have fb83 := (hW.lb (by omega))
                refine ma_si C hK hW (klb K k) (by omega) dX6_isGood_84 ?_
                have fb84 := (hW.si1 (by omega))
                refine xicmp_eqN C 92 dX6_isGood_85 (by decide) (by omega) (by omega) (fun h85 => ?_) (fun h85 => ?_)
                ·
                  refine xiconst (v := nI 0) C dX6_isGood_92 (by decide) ?_
                  refine xtopi (y := nI (bn (0 < kn K ∧ ∀ x, x < (k + 1) → ksi K (kla K x) ≠ ksi K (klb K x)))) (by rw [bn_f (fun q => q.2 k (by omega) h85)]) ?_
                  refine xistore_n (lv' := [(1, .int (nI (bn (0 < kn K ∧ ∀ x, x < (k + 1) → ksi K (kla K x) ≠ ksi K (klb K x))))), (0, .ref (b 0)), (2, .int (nI k))]) C dX6_isGood_93 (by decide) rfl ?_
                  refine xiincN (lv' := [(2, .int (nI (k + 1))), (1, .int (nI (bn (0 < kn K ∧ ∀ x, x < (k + 1) → ksi K (kla K x) ≠ ksi K (klb K x))))), (0, .ref (b 0))]) C 2 rfl dX6_isGood_94 (by decide) rfl ?_
                  refine xgoto C 51 dX6_isGood_97 (by decide) ?_
                  refine xsub [2, 1, 0] rfl ?_
                  exact ih51 (k + 1) (by omega) (by omega)
                ·
                  refine xiconst (v := nI 1) C dX6_isGood_88 (by decide) ?_
                  refine xgoto C 93 dX6_isGood_89 (by decide) ?_
                  refine xtopi (y := nI (bn (0 < kn K ∧ ∀ x, x < (k + 1) → ksi K (kla K x) ≠ ksi K (klb K x)))) (by rw [bn_t ⟨(bn_1 h60).1, lt_s (bn_1 h60).2 h85⟩]) ?_
                  refine xistore_n (lv' := [(1, .int (nI (bn (0 < kn K ∧ ∀ x, x < (k + 1) → ksi K (kla K x) ≠ ksi K (klb K x))))), (0, .ref (b 0)), (2, .int (nI k))]) C dX6_isGood_93 (by decide) rfl ?_
                  refine xiincN (lv' := [(2, .int (nI (k + 1))), (1, .int (nI (bn (0 < kn K ∧ ∀ x, x < (k + 1) → ksi K (kla K x) ≠ ksi K (klb K x))))), (0, .ref (b 0))]) C 2 rfl dX6_isGood_94 (by decide) rfl ?_
                  refine xgoto C 51 dX6_isGood_97 (by decide) ?_
                  refine xsub [2, 1, 0] rfl ?_
                  exact ih51 (k + 1) (by omega) (by omega)
        refine xsub [2, 1, 0] rfl ?_
        exact LP51 _ 0 (Nat.zero_le _) (Nat.lt_succ_self _)
    ·
      refine xiload_n C 0 rfl dX6_isGood_20 ?_
      refine xif_eqN C 39 dX6_isGood_21 (by decide) (bn_lt _) (fun h21 => ?_) (fun h21 => ?_)
      ·
        refine xiconst (v := nI 0) C dX6_isGood_39 (by decide) ?_
        exact xret C hR (by rfl) dX6_isGood_40 (⟨_, rfl, by rw [bn_f (fun q : GoodP K => bn_0 h21 q.1)], F, rfl, fun _ _ => rfl⟩)
      ·
        refine xaload_n C 1 rfl dX6_isGood_24 ?_
        refine gX6_31K C hK dX6_isGood_25 ?_
        refine xaload_n C 1 rfl dX6_isGood_28 ?_
        refine gX6_35K C hK dX6_isGood_29 ?_
        refine xicmp_ltN C 39 dX6_isGood_32 (by decide) (by omega) (by omega) (fun h32 => ?_) (fun h32 => ?_)
        ·
          refine xiconst (v := nI 0) C dX6_isGood_39 (by decide) ?_
          exact xret C hR (by rfl) dX6_isGood_40 (⟨_, rfl, by rw [bn_f (fun q : GoodP K => absurd (good0 h17 q) (by omega))], F, rfl, fun _ _ => rfl⟩)
        ·
          refine xiconst (v := nI 1) C dX6_isGood_35 (by decide) ?_
          refine xgoto C 40 dX6_isGood_36 (by decide) ?_
          exact xret C hR (by rfl) dX6_isGood_40 (⟨_, rfl, by rw [bn_t (P := GoodP K) (good0r h17 (bn_1 h21) h32)], F, rfl, fun _ _ => rfl⟩)
  ·
    refine xiconst (v := nI 1) C dX6_isGood_7 (by decide) ?_
    refine xgoto C 12 dX6_isGood_8 (by decide) ?_
    refine xistore_n (lv' := [(1, .int (nI 1)), (0, .ref (b 0))]) C dX6_isGood_12 (by decide) rfl ?_
    refine xlocals (lv' := [(1, .int (nI (bn (0 < kn K)))), (0, .ref (b 0))]) (by rw [bn_t (P := 0 < kn K) h4]) ?_
    refine xaload_n C 1 rfl dX6_isGood_13 ?_
    refine gX6_90K C hK dX6_isGood_14 ?_
    refine xif_neN C 41 dX6_isGood_17 (by decide) (by omega) (fun h17 => ?_) (fun h17 => ?_)
    ·
      refine xaload_n C 1 rfl dX6_isGood_41 ?_
      refine gX6_90K C hK dX6_isGood_42 ?_
      refine xiconst (v := nI 2) C dX6_isGood_45 (by decide) ?_
      refine xicmp_neN C 102 dX6_isGood_46 (by decide) (by omega) (by omega) (fun h46 => ?_) (fun h46 => ?_)
      ·
        refine xaload_n C 1 rfl dX6_isGood_102 ?_
        refine xaload_n C 1 rfl dX6_isGood_103 ?_
        refine gX6_50 C dX6_isGood_104 ?_
        refine xcVV C (c_X6_layHigh hK hW 11 (by decide) (by decide)) yk_X6_layHigh 0 rfl rfl xml_X6_93 ⟨⟨Nat.le_of_ble_eq_true rfl, Nat.le_of_ble_eq_true rfl⟩, ⟨rfl, rfl⟩, ⟨Nat.zero_le _, Nat.zero_le _⟩⟩ rfl (Nat.le_of_ble_eq_true rfl) dX6_isGood_107 (fun wE hE => ?_)
        obtain ⟨FA, rfl, hXA, hHA, hfe⟩ := hE
        have hKA : CFG K I FA := hK.of (fun _ _ => rfl) (fun q hq => hXA q (by omega))
        refine xiconst (v := nI 0) C dX6_isGood_110 (by decide) ?_
        refine xistore_n (lv' := [(2, .int (nI 0)), (1, .int (nI (bn (0 < kn K)))), (0, .ref (b 0))]) C dX6_isGood_111 (by decide) rfl ?_
        refine xlocals (lv' := [(2, .int (nI 0)), (1, .int (nI (bn (0 < kn K ∧ ∀ x, x < 0 → khd K x = 0 ∨ hS K x + 1 = khd K x)))), (0, .ref (b 0))]) (by rw [bn_iff (show (0 < kn K ∧ ∀ x, x < 0 → khd K x = 0 ∨ hS K x + 1 = khd K x) ↔ 0 < kn K from ⟨fun q => q.1, fun q => ⟨q, fun x h => absurd h (Nat.not_lt_zero _)⟩⟩)]) ?_
        have LP112 : ∀ (fu112 : Nat) (i : Nat) (hi : i ≤ kn K), kn K - i < fu112 → XW X 0 0 (WM b t I FA) [(0, .ref (b 0)), (1, .int (nI (bn (0 < kn K ∧ ∀ x, x < i → khd K x = 0 ∨ hS K x + 1 = khd K x)))), (2, .int (nI i))] 112 [] := by
          intro fu112
          induction fu112 with
          | zero => intro i hi hm112; exact absurd hm112 (Nat.not_lt_zero _)
          | succ fu112 ih112 =>
            intro i hi hm112
            refine xiload_n C 2 rfl dX6_isGood_112 ?_
            refine xaload_n C 0 rfl dX6_isGood_113 ?_
            refine gX6_53K C hKA dX6_isGood_114 ?_
            refine xicmp_geN C 160 dX6_isGood_117 (by decide) (by omega) (by omega) (fun h117 => ?_) (fun h117 => ?_)
            ·
              refine xiload_n C 1 rfl dX6_isGood_160 ?_
              exact xret C hR (nar_bn _) dX6_isGood_161 (⟨_, rfl, by rw [bn_iff (good1 hW (show kk K = 1 by omega) (show i = kn K by omega) hfe)], FA, rfl, hXA⟩)
            ·
              refine xiload_n C 1 rfl dX6_isGood_120 ?_
              refine xif_eqN C 152 dX6_isGood_121 (by decide) (bn_lt _) (fun h121 => ?_) (fun h121 => ?_)
              ·
                refine xiconst (v := nI 0) C dX6_isGood_152 (by decide) ?_
                refine xtopi (y := nI (bn (0 < kn K ∧ ∀ x, x < (i + 1) → khd K x = 0 ∨ hS K x + 1 = khd K x))) (by rw [bn_f (fun q => bn_0 h121 ⟨q.1, fun x hx => q.2 x (by omega)⟩)]) ?_
                refine xistore_n (lv' := [(1, .int (nI (bn (0 < kn K ∧ ∀ x, x < (i + 1) → khd K x = 0 ∨ hS K x + 1 = khd K x)))), (0, .ref (b 0)), (2, .int (nI i))]) C dX6_isGood_153 (by decide) rfl ?_
                refine xiincN (lv' := [(2, .int (nI (i + 1))), (1, .int (nI (bn (0 < kn K ∧ ∀ x, x < (i + 1) → khd K x = 0 ∨ hS K x + 1 = khd K x)))), (0, .ref (b 0))]) C 2 rfl dX6_isGood_154 (by decide) rfl ?_
                refine xgoto C 112 dX6_isGood_157 (by decide) ?_
                refine xsub [2, 1, 0] rfl ?_
                exact ih112 (i + 1) (by omega) (by omega)
              ·
                refine xaload_n C 0 rfl dX6_isGood_124 ?_
                refine gX6_16 C dX6_isGood_125 ?_
                refine xiload_n C 2 rfl dX6_isGood_128 ?_
                refine ma_hd C hKA hW i (by omega) dX6_isGood_129 ?_
                have fb129 := (hW.hd6 (by omega))
                refine xif_lt C 148 dX6_isGood_130 (by decide) (fun h130 => ?_) (fun h130 => ?_)
                ·
                  refine xiconst (v := nI 1) C dX6_isGood_148 (by decide) ?_
                  refine xgoto C 153 dX6_isGood_149 (by decide) ?_
                  refine xtopi (y := nI (bn (0 < kn K ∧ ∀ x, x < (i + 1) → khd K x = 0 ∨ hS K x + 1 = khd K x))) (by rw [bn_t ⟨(bn_1 h121).1, lt_s (bn_1 h121).2 (Or.inl (hdl (by omega) h130))⟩]) ?_
                  refine xistore_n (lv' := [(1, .int (nI (bn (0 < kn K ∧ ∀ x, x < (i + 1) → khd K x = 0 ∨ hS K x + 1 = khd K x)))), (0, .ref (b 0)), (2, .int (nI i))]) C dX6_isGood_153 (by decide) rfl ?_
                  refine xiincN (lv' := [(2, .int (nI (i + 1))), (1, .int (nI (bn (0 < kn K ∧ ∀ x, x < (i + 1) → khd K x = 0 ∨ hS K x + 1 = khd K x)))), (0, .ref (b 0))]) C 2 rfl dX6_isGood_154 (by decide) rfl ?_
                  refine xgoto C 112 dX6_isGood_157 (by decide) ?_
                  refine xsub [2, 1, 0] rfl ?_
                  exact ih112 (i + 1) (by omega) (by omega)
                ·
                  refine xaload_n C 0 rfl dX6_isGood_133 ?_
                  refine gX6_50 C dX6_isGood_134 ?_
                  refine xiload_n C 2 rfl dX6_isGood_137 ?_
                  refine ma_st C hW 11 (by decide) (by decide) hHA i (by omega) dX6_isGood_138 ?_
                  have fb138 := (hHA i (by omega)).2
                  refine xaload_n C 0 rfl dX6_isGood_139 ?_
                  refine gX6_16 C dX6_isGood_140 ?_
                  refine xiload_n C 2 rfl dX6_isGood_143 ?_
                  refine ma_hd C hKA hW i (by omega) dX6_isGood_144 ?_
                  have fb144 := (hW.hd6 (by omega))
                  refine xicmp_ne C 152 dX6_isGood_145 (by decide) (fun h145 => ?_) (fun h145 => ?_)
                  ·
                    refine xiconst (v := nI 0) C dX6_isGood_152 (by decide) ?_
                    refine xtopi (y := nI (bn (0 < kn K ∧ ∀ x, x < (i + 1) → khd K x = 0 ∨ hS K x + 1 = khd K x))) (by rw [bn_f (fun q => (q.2 i (by omega)).elim (hdnl (by omega) h130) (fun e => h145 (hdx2 e)))]) ?_
                    refine xistore_n (lv' := [(1, .int (nI (bn (0 < kn K ∧ ∀ x, x < (i + 1) → khd K x = 0 ∨ hS K x + 1 = khd K x)))), (0, .ref (b 0)), (2, .int (nI i))]) C dX6_isGood_153 (by decide) rfl ?_
                    refine xiincN (lv' := [(2, .int (nI (i + 1))), (1, .int (nI (bn (0 < kn K ∧ ∀ x, x < (i + 1) → khd K x = 0 ∨ hS K x + 1 = khd K x)))), (0, .ref (b 0))]) C 2 rfl dX6_isGood_154 (by decide) rfl ?_
                    refine xgoto C 112 dX6_isGood_157 (by decide) ?_
                    refine xsub [2, 1, 0] rfl ?_
                    exact ih112 (i + 1) (by omega) (by omega)
                  ·
                    refine xiconst (v := nI 1) C dX6_isGood_148 (by decide) ?_
                    refine xgoto C 153 dX6_isGood_149 (by decide) ?_
                    refine xtopi (y := nI (bn (0 < kn K ∧ ∀ x, x < (i + 1) → khd K x = 0 ∨ hS K x + 1 = khd K x))) (by rw [bn_t ⟨(bn_1 h121).1, lt_s (bn_1 h121).2 (Or.inr (hdx (by omega) (by omega) h145))⟩]) ?_
                    refine xistore_n (lv' := [(1, .int (nI (bn (0 < kn K ∧ ∀ x, x < (i + 1) → khd K x = 0 ∨ hS K x + 1 = khd K x)))), (0, .ref (b 0)), (2, .int (nI i))]) C dX6_isGood_153 (by decide) rfl ?_
                    refine xiincN (lv' := [(2, .int (nI (i + 1))), (1, .int (nI (bn (0 < kn K ∧ ∀ x, x < (i + 1) → khd K x = 0 ∨ hS K x + 1 = khd K x)))), (0, .ref (b 0))]) C 2 rfl dX6_isGood_154 (by decide) rfl ?_
                    refine xgoto C 112 dX6_isGood_157 (by decide) ?_
                    refine xsub [2, 1, 0] rfl ?_
                    exact ih112 (i + 1) (by omega) (by omega)
        refine xsub [2, 1, 0] rfl ?_
        exact LP112 _ 0 (Nat.zero_le _) (Nat.lt_succ_self _)
      ·
        refine xiconst (v := nI 0) C dX6_isGood_49 (by decide) ?_
        refine xistore_n (lv' := [(2, .int (nI 0)), (1, .int (nI (bn (0 < kn K)))), (0, .ref (b 0))]) C dX6_isGood_50 (by decide) rfl ?_
        refine xlocals (lv' := [(2, .int (nI 0)), (1, .int (nI (bn (0 < kn K ∧ ∀ x, x < 0 → ksi K (kla K x) ≠ ksi K (klb K x))))), (0, .ref (b 0))]) (by rw [bn_iff (show (0 < kn K ∧ ∀ x, x < 0 → ksi K (kla K x) ≠ ksi K (klb K x)) ↔ 0 < kn K from ⟨fun q => q.1, fun q => ⟨q, fun x h => absurd h (Nat.not_lt_zero _)⟩⟩)]) ?_
        have LP51 : ∀ (fu51 : Nat) (k : Nat) (hk : k ≤ km K), km K - k < fu51 → XW X 0 0 (WM b t I F) [(0, .ref (b 0)), (1, .int (nI (bn (0 < kn K ∧ ∀ x, x < k → ksi K (kla K x) ≠ ksi K (klb K x))))), (2, .int (nI k))] 51 [] := by
          intro fu51
          induction fu51 with
          | zero => intro k hk hm51; exact absurd hm51 (Nat.not_lt_zero _)
          | succ fu51 ih51 =>
            intro k hk hm51
            refine xiload_n C 2 rfl dX6_isGood_51 ?_
            refine xaload_n C 0 rfl dX6_isGood_52 ?_
            refine gX6_79K C hK dX6_isGood_53 ?_
            refine xicmp_geN C 100 dX6_isGood_56 (by decide) (by omega) (by omega) (fun h56 => ?_) (fun h56 => ?_)
            ·
              refine xiload_n C 1 rfl dX6_isGood_100 ?_
              exact xret C hR (nar_bn _) dX6_isGood_101 (⟨_, rfl, by rw [bn_iff (good2 h46 (show k = km K by omega))], F, rfl, fun _ _ => rfl⟩)
            ·
              refine xiload_n C 1 rfl dX6_isGood_59 ?_
              refine xif_eqN C 92 dX6_isGood_60 (by decide) (bn_lt _) (fun h60 => ?_) (fun h60 => ?_)
              ·
                refine xiconst (v := nI 0) C dX6_isGood_92 (by decide) ?_
                refine xtopi (y := nI (bn (0 < kn K ∧ ∀ x, x < (k + 1) → ksi K (kla K x) ≠ ksi K (klb K x)))) (by rw [bn_f (fun q => bn_0 h60 ⟨q.1, fun x hx => q.2 x (by omega)⟩)]) ?_
                refine xistore_n (lv' := [(1, .int (nI (bn (0 < kn K ∧ ∀ x, x < (k + 1) → ksi K (kla K x) ≠ ksi K (klb K x))))), (0, .ref (b 0)), (2, .int (nI k))]) C dX6_isGood_93 (by decide) rfl ?_
                refine xiincN (lv' := [(2, .int (nI (k + 1))), (1, .int (nI (bn (0 < kn K ∧ ∀ x, x < (k + 1) → ksi K (kla K x) ≠ ksi K (klb K x))))), (0, .ref (b 0))]) C 2 rfl dX6_isGood_94 (by decide) rfl ?_
                refine xgoto C 51 dX6_isGood_97 (by decide) ?_
                refine xsub [2, 1, 0] rfl ?_
                exact ih51 (k + 1) (by omega) (by omega)
              ·
                refine xaload_n C 0 rfl dX6_isGood_63 ?_
                refine gX6_13 C dX6_isGood_64 ?_
                refine xaload_n C 0 rfl dX6_isGood_67 ?_
                refine gX6_25 C dX6_isGood_68 ?_
                refine xiload_n C 2 rfl dX6_isGood_71 ?_
                refine ma_la C hK hW k (by omega) dX6_isGood_72 ?_
                have fb72 := (hW.la (by omega))
                refine ma_si C hK hW (kla K k) (by omega) dX6_isGood_73 ?_
                have fb73 := (hW.si1 (by omega))
                refine xaload_n C 0 rfl dX6_isGood_74 ?_
                refine gX6_13 C dX6_isGood_75 ?_
                refine xaload_n C 0 rfl dX6_isGood_78 ?_
                refine gX6_28 C dX6_isGood_79 ?_
                refine xiload_n C 2 rfl dX6_isGood_82 ?_
                refine ma_lb C hK hW k (by omega) dX6_isGood_83 ?_
                have fb83 := (hW.lb (by omega))
                refine ma_si C hK hW (klb K k) (by omega) dX6_isGood_84 ?_
                have fb84 := (hW.si1 (by omega))
                refine xicmp_eqN C 92 dX6_isGood_85 (by decide) (by omega) (by omega) (fun h85 => ?_) (fun h85 => ?_)
                ·
                  refine xiconst (v := nI 0) C dX6_isGood_92 (by decide) ?_
                  refine xtopi (y := nI (bn (0 < kn K ∧ ∀ x, x < (k + 1) → ksi K (kla K x) ≠ ksi K (klb K x)))) (by rw [bn_f (fun q => q.2 k (by omega) h85)]) ?_
                  refine xistore_n (lv' := [(1, .int (nI (bn (0 < kn K ∧ ∀ x, x < (k + 1) → ksi K (kla K x) ≠ ksi K (klb K x))))), (0, .ref (b 0)), (2, .int (nI k))]) C dX6_isGood_93 (by decide) rfl ?_
                  refine xiincN (lv' := [(2, .int (nI (k + 1))), (1, .int (nI (bn (0 < kn K ∧ ∀ x, x < (k + 1) → ksi K (kla K x) ≠ ksi K (klb K x))))), (0, .ref (b 0))]) C 2 rfl dX6_isGood_94 (by decide) rfl ?_
                  refine xgoto C 51 dX6_isGood_97 (by decide) ?_
                  refine xsub [2, 1, 0] rfl ?_
                  exact ih51 (k + 1) (by omega) (by omega)
                ·
                  refine xiconst (v := nI 1) C dX6_isGood_88 (by decide) ?_
                  refine xgoto C 93 dX6_isGood_89 (by decide) ?_
                  refine xtopi (y := nI (bn (0 < kn K ∧ ∀ x, x < (k + 1) → ksi K (kla K x) ≠ ksi K (klb K x)))) (by rw [bn_t ⟨(bn_1 h60).1, lt_s (bn_1 h60).2 h85⟩]) ?_
                  refine xistore_n (lv' := [(1, .int (nI (bn (0 < kn K ∧ ∀ x, x < (k + 1) → ksi K (kla K x) ≠ ksi K (klb K x))))), (0, .ref (b 0)), (2, .int (nI k))]) C dX6_isGood_93 (by decide) rfl ?_
                  refine xiincN (lv' := [(2, .int (nI (k + 1))), (1, .int (nI (bn (0 < kn K ∧ ∀ x, x < (k + 1) → ksi K (kla K x) ≠ ksi K (klb K x))))), (0, .ref (b 0))]) C 2 rfl dX6_isGood_94 (by decide) rfl ?_
                  refine xgoto C 51 dX6_isGood_97 (by decide) ?_
                  refine xsub [2, 1, 0] rfl ?_
                  exact ih51 (k + 1) (by omega) (by omega)
        refine xsub [2, 1, 0] rfl ?_
        exact LP51 _ 0 (Nat.zero_le _) (Nat.lt_succ_self _)
    ·
      refine xiload_n C 0 rfl dX6_isGood_20 ?_
      refine xif_eqN C 39 dX6_isGood_21 (by decide) (bn_lt _) (fun h21 => ?_) (fun h21 => ?_)
      ·
        refine xiconst (v := nI 0) C dX6_isGood_39 (by decide) ?_
        exact xret C hR (by rfl) dX6_isGood_40 (⟨_, rfl, by rw [bn_f (fun q : GoodP K => bn_0 h21 q.1)], F, rfl, fun _ _ => rfl⟩)
      ·
        refine xaload_n C 1 rfl dX6_isGood_24 ?_
        refine gX6_31K C hK dX6_isGood_25 ?_
        refine xaload_n C 1 rfl dX6_isGood_28 ?_
        refine gX6_35K C hK dX6_isGood_29 ?_
        refine xicmp_ltN C 39 dX6_isGood_32 (by decide) (by omega) (by omega) (fun h32 => ?_) (fun h32 => ?_)
        ·
          refine xiconst (v := nI 0) C dX6_isGood_39 (by decide) ?_
          exact xret C hR (by rfl) dX6_isGood_40 (⟨_, rfl, by rw [bn_f (fun q : GoodP K => absurd (good0 h17 q) (by omega))], F, rfl, fun _ _ => rfl⟩)
        ·
          refine xiconst (v := nI 1) C dX6_isGood_35 (by decide) ?_
          refine xgoto C 40 dX6_isGood_36 (by decide) ?_
          exact xret C hR (by rfl) dX6_isGood_40 (⟨_, rfl, by rw [bn_t (P := GoodP K) (good0r h17 (bn_1 h21) h32)], F, rfl, fun _ _ => rfl⟩)
