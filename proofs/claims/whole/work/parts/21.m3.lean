/-! The reference, 3: ticks and draws (written by my program parts_m3.py). -/
theorem wstep {A : Nat} {g : Nat → Nat} {i c : Nat} (h : g i = c) : lN (A * pr g i * c) = lN (A * pr g (i + 1)) := by subst h; show _ = lN (A * (pr g i * g i)); rw [Nat.mul_assoc]
theorem wzero {A : Nat} {g : Nat → Nat} {i : Nat} (h : g i = 0) : lN 0 = lN (A * pr g (i + 1)) := by rw [← wstep h, Nat.mul_zero]
theorem wone {A : Nat} {g : Nat → Nat} {i : Nat} (h : g i = 1) : lN (A * pr g i) = lN (A * pr g (i + 1)) := by rw [← wstep h, Nat.mul_one]
theorem lwe_0 {K : Cfg} {x y : Nat} (h : kk K = 0) (e : x = y) : lwN K x y = ku K := by unfold lwN; rw [if_pos h, if_pos e]
theorem lwn_0 {K : Cfg} {x y : Nat} (h : kk K = 0) (e : ¬ x = y) : lwN K x y = kv K := by unfold lwN; rw [if_pos h, if_neg e]
theorem lw_1v {K : Cfg} {x y : Nat} (h : kk K = 1) : lwN K x y = if x ≤ y + 1 ∧ y ≤ x + 1 then 1 else 0 := by unfold lwN; rw [if_neg (by omega), if_pos h]
theorem lw_2v {K : Cfg} {x y : Nat} (h : kk K = 2) : lwN K x y = if x = 1 ∧ y = 1 then 0 else 1 := by unfold lwN; rw [if_neg (by omega), if_neg (by omega)]
theorem pw_free {K : Cfg} {p x : Nat} (hx : x ≤ mostN K p) (hh : ¬ (kk K = 1 ∧ khd K p ≠ 0)) : pwN K p x = if kk K = 2 then (if x = 1 then ku K else kv K) else 1 := by
  unfold pwN
  rw [if_neg]
  intro q
  rcases q with q | q
  · omega
  · exact hh ⟨q.1, q.2.1⟩
theorem most_1 {K : Cfg} {p : Nat} (h : kk K = 1) : ktop K p = mostN K p := by unfold mostN; rw [if_pos h]
theorem most_n {K : Cfg} {p : Nat} (h : ¬ kk K = 1) : 1 = mostN K p := by unfold mostN; rw [if_neg h]
theorem noh_t {K : Cfg} {p i : Nat} (h : kk K = 2) (h1 : ksi K p = 1) : 1 - i = nohN K p i := by unfold nohN; rw [if_pos ⟨h, h1⟩]
theorem noh_n {K : Cfg} {p i : Nat} (h : ¬ (kk K = 2 ∧ ksi K p = 1)) : i = nohN K p i := by unfold nohN; rw [if_neg h]
theorem noh_m {K : Cfg} {p i : Nat} (h : i ≤ mostN K p) : nohN K p i ≤ mostN K p := by
  unfold nohN
  split
  · next q => rw [← most_n (K := K) (p := p) (by omega)] at h ⊢; omega
  · exact h
theorem sum_noh {K : Cfg} (hW : WFK K) {f : Nat → Nat} {p : Nat} (hp : p < kn K) : sm (waN K f p) (mostN K p + 1) = sm (whN K f p) (mostN K p + 1) := by
  by_cases h : kk K = 2 ∧ ksi K p = 1
  · rw [← most_n (K := K) (p := p) (by omega)]
    show 0 + waN K f p 0 + waN K f p 1 = 0 + waN K f p (nohN K p 0) + waN K f p (nohN K p 1)
    rw [← noh_t h.1 h.2, ← noh_t h.1 h.2]
    show 0 + waN K f p 0 + waN K f p 1 = 0 + waN K f p 1 + waN K f p 0
    omega
  · apply sm_congr
    intro j _
    unfold whN
    rw [← noh_n h]
/-- a place that is held keeps its number -/
def HE (K : Cfg) (f : Nat → Nat) : Prop := kk K = 1 → ∀ p, p < kn K → khd K p ≠ 0 → f p + 1 = khd K p
theorem ch_none {K : Cfg} {f : Nat → Nat} {p lot i : Nat} (hno : ∀ x, x < i → ¬ lot * sm (whN K f p) (mostN K p + 1) < 65536 * sm (whN K f p) (x + 1)) (hi : mostN K p < i) : chN K f p lot = f p := by
  unfold chN
  rw [fst_none (fun x hx => hno x (by omega))]
theorem sm_one {g : Nat → Nat} {c : Nat} (h : ∀ x, x ≠ c → g x = 0) : ∀ k, sm g k = if c < k then g c else 0
  | 0 => by rw [if_neg (by omega)]; rfl
  | k + 1 => by
    show sm g k + g k = _
    rw [sm_one h k]
    by_cases e : k = c
    · subst e; rw [if_neg (by omega), if_pos (by omega)]; omega
    · rw [h k e]
      by_cases e2 : c < k
      · rw [if_pos e2, if_pos (by omega)]; rfl
      · rw [if_neg e2, if_neg (by omega)]
theorem tk_held {K : Cfg} (hW : WFK K) {f : Nat → Nat} {p lot : Nat} (hp : p < kn K) (hk : kk K = 1) (h : ¬ khd K p = 0) (hf : f p + 1 = khd K p) : chN K f p lot = f p := by
  have hm : f p ≤ mostN K p := by
    have := (hW.pl hp).2.2.2
    rw [← most_1 hk]; omega
  have hz : ∀ x, x ≠ f p → whN K f p x = 0 := by
    intro x hx
    unfold whN
    rw [← noh_n (by omega)]
    unfold waN pwN
    rw [if_pos (Or.inr ⟨hk, h, by omega⟩), Nat.zero_mul]
  have hs := sm_one hz
  by_cases c : lot * sm (whN K f p) (mostN K p + 1) < 65536 * sm (whN K f p) (f p + 1)
  · rw [chN_some hm c (fun x hx => by rw [hs (x + 1), if_neg (by omega)]; omega), ← noh_n (by omega)]
  · refine ch_none (i := mostN K p + 1) (fun x hx q => ?_) (by omega)
    rw [hs (x + 1)] at q
    by_cases e : f p < x + 1
    · rw [if_pos e] at q
      rw [hs (f p + 1), if_pos (by omega)] at c
      exact c q
    · rw [if_neg e] at q; omega
theorem tk_up {K : Cfg} {sd tt : Int32} {f : Nat → Nat} {g : Nat → Int32} {p x : Nat} (hS : RA (kn K) g f) (h : chN K f (plN K (mixI sd tt)) (lotN (mixI sd tt)) = x) (hx : x ≤ 5) (e : p = plN K (mixI sd tt)) : RA (kn K) (upd g p (nI x)) (tkN K sd f tt) := by
  unfold tkN
  rw [h, ← e]
  exact hS.up hx
theorem tk_ra {K : Cfg} {sd tt : Int32} {f : Nat → Nat} {g : Nat → Int32} {p : Nat} (hS : RA (kn K) g f) (h : chN K f (plN K (mixI sd tt)) (lotN (mixI sd tt)) = f p) (e : p = plN K (mixI sd tt)) : RA (kn K) g (tkN K sd f tt) := by
  intro q hq
  have : tkN K sd f tt q = f q := by
    unfold tkN
    rw [h, e]
    by_cases c : q = plN K (mixI sd tt)
    · rw [c, va_up_self]
    · rw [va_up_ne _ _ c]
  rw [this]
  exact hS q hq
theorem dX6_mixed_0 : decode cX6_mixed 0 = .ok (.aload_n 0, 1) := by decide +kernel
theorem dX6_mixed_1 : decode cX6_mixed 1 = .ok (.getfield 104, 3) := by decide +kernel
theorem dX6_mixed_4 : decode cX6_mixed 4 = .ok (.ldc 107, 2) := by decide +kernel
theorem dX6_mixed_6 : decode cX6_mixed 6 = .ok (.imul, 1) := by decide +kernel
theorem dX6_mixed_7 : decode cX6_mixed 7 = .ok (.iload_n 1, 1) := by decide +kernel
theorem dX6_mixed_8 : decode cX6_mixed 8 = .ok (.sipush 12345, 3) := by decide +kernel
theorem dX6_mixed_11 : decode cX6_mixed 11 = .ok (.imul, 1) := by decide +kernel
theorem dX6_mixed_12 : decode cX6_mixed 12 = .ok (.iadd, 1) := by decide +kernel
theorem dX6_mixed_13 : decode cX6_mixed 13 = .ok (.ldc 108, 2) := by decide +kernel
theorem dX6_mixed_15 : decode cX6_mixed 15 = .ok (.iadd, 1) := by decide +kernel
theorem dX6_mixed_16 : decode cX6_mixed 16 = .ok (.istore_n 2, 1) := by decide +kernel
theorem dX6_mixed_17 : decode cX6_mixed 17 = .ok (.iload_n 2, 1) := by decide +kernel
theorem dX6_mixed_18 : decode cX6_mixed 18 = .ok (.iload_n 2, 1) := by decide +kernel
theorem dX6_mixed_19 : decode cX6_mixed 19 = .ok (.bipush 15, 2) := by decide +kernel
theorem dX6_mixed_21 : decode cX6_mixed 21 = .ok (.iushr, 1) := by decide +kernel
theorem dX6_mixed_22 : decode cX6_mixed 22 = .ok (.ixor, 1) := by decide +kernel
theorem dX6_mixed_23 : decode cX6_mixed 23 = .ok (.ldc 109, 2) := by decide +kernel
theorem dX6_mixed_25 : decode cX6_mixed 25 = .ok (.imul, 1) := by decide +kernel
theorem dX6_mixed_26 : decode cX6_mixed 26 = .ok (.istore_n 2, 1) := by decide +kernel
theorem dX6_mixed_27 : decode cX6_mixed 27 = .ok (.iload_n 2, 1) := by decide +kernel
theorem dX6_mixed_28 : decode cX6_mixed 28 = .ok (.iload_n 2, 1) := by decide +kernel
theorem dX6_mixed_29 : decode cX6_mixed 29 = .ok (.bipush 12, 2) := by decide +kernel
theorem dX6_mixed_31 : decode cX6_mixed 31 = .ok (.iushr, 1) := by decide +kernel
theorem dX6_mixed_32 : decode cX6_mixed 32 = .ok (.ixor, 1) := by decide +kernel
theorem dX6_mixed_33 : decode cX6_mixed 33 = .ok (.ldc 110, 2) := by decide +kernel
theorem dX6_mixed_35 : decode cX6_mixed 35 = .ok (.imul, 1) := by decide +kernel
theorem dX6_mixed_36 : decode cX6_mixed 36 = .ok (.istore_n 2, 1) := by decide +kernel
theorem dX6_mixed_37 : decode cX6_mixed 37 = .ok (.iload_n 2, 1) := by decide +kernel
theorem dX6_mixed_38 : decode cX6_mixed 38 = .ok (.iload_n 2, 1) := by decide +kernel
theorem dX6_mixed_39 : decode cX6_mixed 39 = .ok (.bipush 15, 2) := by decide +kernel
theorem dX6_mixed_41 : decode cX6_mixed 41 = .ok (.iushr, 1) := by decide +kernel
theorem dX6_mixed_42 : decode cX6_mixed 42 = .ok (.ixor, 1) := by decide +kernel
theorem dX6_mixed_43 : decode cX6_mixed 43 = .ok (.ireturn, 1) := by decide +kernel
def rX6_mixed : Room := { frames := 0, cells := 0, slots := 0, locals := 0 }
theorem yk_X6_mixed : YK yX6_mixed cX6_mixed 3 (some .int) 1 := ⟨xim_X6_mixed, xse_X6_mixed, xin_X6, xco_X6_mixed, by decide +kernel⟩
set_option maxRecDepth 4000 in
theorem c_X6_mixed {l : Launch} {D : va_G} {t : Nat → ClassId} {b : Nat → Nat} {I : Nat → Int32} {F : Nat → Nat → Int32} (sd tt : Int32) (hsd : I 10 = sd) : CT l D t yX6_mixed cX6_mixed 3 (some .int) rX6_mixed 0 0 [.ref (b 0), .int tt] (WM b t I F) (RP (.int (mixI sd tt)) (WM b t I F)) := by
  refine CT.of (by decide +kernel) (by simp [lg_sl, Value.category]) (fun X C hR => ?_)
  refine xlocals (lv' := [(0, .ref (b 0)), (1, .int tt)]) rfl ?_
  refine xaload_n C 0 rfl dX6_mixed_0 ?_
  refine gX6_104 C dX6_mixed_1 ?_
  refine xtopi (y := sd) (hsd) ?_
  refine xldc C dX6_mixed_4 xcn_X6_107 ?_
  refine ximul C dX6_mixed_6 ?_
  refine xiload_n C 1 rfl dX6_mixed_7 ?_
  refine xsipush (v := 12345) C dX6_mixed_8 (by decide) ?_
  refine ximul C dX6_mixed_11 ?_
  refine xiadd C dX6_mixed_12 ?_
  refine xldc C dX6_mixed_13 xcn_X6_108 ?_
  refine xiadd C dX6_mixed_15 ?_
  obtain ⟨m1, em1⟩ : ∃ z : Int32, z = ((sd * 1103515245) + (tt * 12345)) + 1013904223 := ⟨_, rfl⟩
  refine xtopi (y := m1) em1.symm ?_
  refine xistore_n (lv' := [(2, .int m1), (0, .ref (b 0)), (1, .int tt)]) C dX6_mixed_16 (by decide) rfl ?_
  refine xiload_n C 0 rfl dX6_mixed_17 ?_
  refine xiload_n C 0 rfl dX6_mixed_18 ?_
  refine xbipush (v := 15) C dX6_mixed_19 (by decide) ?_
  refine xiushr C dX6_mixed_21 ?_
  refine xixor C dX6_mixed_22 ?_
  refine xldc C dX6_mixed_23 xcn_X6_109 ?_
  refine ximul C dX6_mixed_25 ?_
  obtain ⟨m2, em2⟩ : ∃ z : Int32, z = (m1 ^^^ ((m1.toUInt32 >>> ((15 : Int32).toUInt32 &&& Int32.toUInt32 31)).toInt32)) * 739982445 := ⟨_, rfl⟩
  refine xtopi (y := m2) em2.symm ?_
  refine xistore_n (lv' := [(2, .int m2), (0, .ref (b 0)), (1, .int tt)]) C dX6_mixed_26 (by decide) rfl ?_
  refine xiload_n C 0 rfl dX6_mixed_27 ?_
  refine xiload_n C 0 rfl dX6_mixed_28 ?_
  refine xbipush (v := 12) C dX6_mixed_29 (by decide) ?_
  refine xiushr C dX6_mixed_31 ?_
  refine xixor C dX6_mixed_32 ?_
  refine xldc C dX6_mixed_33 xcn_X6_110 ?_
  refine ximul C dX6_mixed_35 ?_
  obtain ⟨m3, em3⟩ : ∃ z : Int32, z = (m2 ^^^ ((m2.toUInt32 >>> ((12 : Int32).toUInt32 &&& Int32.toUInt32 31)).toInt32)) * 695872825 := ⟨_, rfl⟩
  refine xtopi (y := m3) em3.symm ?_
  refine xistore_n (lv' := [(2, .int m3), (0, .ref (b 0)), (1, .int tt)]) C dX6_mixed_36 (by decide) rfl ?_
  refine xiload_n C 0 rfl dX6_mixed_37 ?_
  refine xiload_n C 0 rfl dX6_mixed_38 ?_
  refine xbipush (v := 15) C dX6_mixed_39 (by decide) ?_
  refine xiushr C dX6_mixed_41 ?_
  refine xixor C dX6_mixed_42 ?_
  exact xret C hR (rfl) dX6_mixed_43 (RPi (by rw [em3, em2, em1]; rfl))
theorem dX6_tick_0 : decode cX6_tick 0 = .ok (.iload_n 2, 1) := by decide +kernel
theorem dX6_tick_1 : decode cX6_tick 1 = .ok (.iconst 0, 1) := by decide +kernel
theorem dX6_tick_2 : decode cX6_tick 2 = .ok (.iconst 1, 1) := by decide +kernel
theorem dX6_tick_3 : decode cX6_tick 3 = .ok (.invokestatic 56, 3) := by decide +kernel
theorem dX6_tick_6 : decode cX6_tick 6 = .ok (.ifCond .ne 6, 3) := by decide +kernel
theorem dX6_tick_9 : decode cX6_tick 9 = .ok (.bipush (-2), 2) := by decide +kernel
theorem dX6_tick_11 : decode cX6_tick 11 = .ok (.ireturn, 1) := by decide +kernel
theorem dX6_tick_12 : decode cX6_tick 12 = .ok (.aload_n 0, 1) := by decide +kernel
theorem dX6_tick_13 : decode cX6_tick 13 = .ok (.getfield 53, 3) := by decide +kernel
theorem dX6_tick_16 : decode cX6_tick 16 = .ok (.ifCond .ne 6, 3) := by decide +kernel
theorem dX6_tick_19 : decode cX6_tick 19 = .ok (.bipush (-3), 2) := by decide +kernel
theorem dX6_tick_21 : decode cX6_tick 21 = .ok (.ireturn, 1) := by decide +kernel
theorem dX6_tick_22 : decode cX6_tick 22 = .ok (.aload_n 0, 1) := by decide +kernel
theorem dX6_tick_23 : decode cX6_tick 23 = .ok (.iload_n 1, 1) := by decide +kernel
theorem dX6_tick_24 : decode cX6_tick 24 = .ok (.invokevirtual 111, 3) := by decide +kernel
theorem dX6_tick_27 : decode cX6_tick 27 = .ok (.istore_n 3, 1) := by decide +kernel
theorem dX6_tick_28 : decode cX6_tick 28 = .ok (.iload_n 2, 1) := by decide +kernel
theorem dX6_tick_29 : decode cX6_tick 29 = .ok (.ifCond .ne 15, 3) := by decide +kernel
theorem dX6_tick_32 : decode cX6_tick 32 = .ok (.iload_n 3, 1) := by decide +kernel
theorem dX6_tick_33 : decode cX6_tick 33 = .ok (.bipush 16, 2) := by decide +kernel
theorem dX6_tick_35 : decode cX6_tick 35 = .ok (.iushr, 1) := by decide +kernel
theorem dX6_tick_36 : decode cX6_tick 36 = .ok (.aload_n 0, 1) := by decide +kernel
theorem dX6_tick_37 : decode cX6_tick 37 = .ok (.getfield 53, 3) := by decide +kernel
theorem dX6_tick_40 : decode cX6_tick 40 = .ok (.irem, 1) := by decide +kernel
theorem dX6_tick_41 : decode cX6_tick 41 = .ok (.goto 7, 3) := by decide +kernel
theorem dX6_tick_44 : decode cX6_tick 44 = .ok (.iload_n 3, 1) := by decide +kernel
theorem dX6_tick_45 : decode cX6_tick 45 = .ok (.ldc 115, 2) := by decide +kernel
theorem dX6_tick_47 : decode cX6_tick 47 = .ok (.iand, 1) := by decide +kernel
theorem dX6_tick_48 : decode cX6_tick 48 = .ok (.ireturn, 1) := by decide +kernel
def rX6_tick : Room := { frames := 1, cells := 0, slots := 0, locals := 22 }
theorem yk_X6_tick : YK yX6_tick cX6_tick 4 (some .int) 2 := ⟨xim_X6_tick, xse_X6_tick, xin_X6, xco_X6_tick, by decide +kernel⟩
set_option maxRecDepth 4000 in
theorem c_X6_tick {l : Launch} {D : va_G} {t : Nat → ClassId} {b : Nat → Nat} {I : Nat → Int32} {F : Nat → Nat → Int32} {K : Cfg} {sd : Int32} {hd : Nat → Nat} {dk : Bool} {dw : Nat → Nat} {mt : Int32} (hI : INV (K, sd, hd, dk, dw, mt)) (hX : RM (K, sd, hd, dk, dw, mt) I F) (x y : Int32) : CT l D t yX6_tick cX6_tick 4 (some .int) rX6_tick 0 0 [.ref (b 0), .int x, .int y] (WM b t I F) (MO b t (opTick (K, sd, hd, dk, dw, mt) x y)) := by
  refine CT.of (by decide +kernel) (by simp [lg_sl, Value.category]) (fun X C hR => ?_)
  refine xlocals (lv' := [(0, .ref (b 0)), (1, .int x), (2, .int y)]) rfl ?_
  obtain ⟨hK, hsd, hHd, hdk, hdr⟩ := id hX
  have hW : WFK K := hI.1
  have hrg := hI.2.1
  have fn24 := hW.n24; have fm60 := hW.m60; have fk2 := hW.k2; have fu1 := hW.u1; have fu9 := hW.u9; have fv1 := hW.v1; have fv9 := hW.v9
  refine xiload_n C 2 rfl dX6_tick_0 ?_
  refine xiconst (v := 0) C dX6_tick_1 (by decide) ?_
  refine xiconst (v := 1) C dX6_tick_2 (by decide) ?_
  refine xcSR C (c_X6_in y 0 1) sk_X6_in xml_X6_56 ⟨⟨Nat.le_of_ble_eq_true rfl, Nat.le_of_ble_eq_true rfl⟩, ⟨rfl, rfl⟩, ⟨Nat.zero_le _, Nat.zero_le _⟩⟩ rfl (Nat.le_of_ble_eq_true rfl) dX6_tick_3 ?_
  refine xif_neN C 12 dX6_tick_6 (by decide) (bn_lt _) (fun h6 => ?_) (fun h6 => ?_)
  ·
    refine xaload_n C 0 rfl dX6_tick_12 ?_
    refine gX6_53K C hK dX6_tick_13 ?_
    refine xif_neN C 22 dX6_tick_16 (by decide) (by omega) (fun h16 => ?_) (fun h16 => ?_)
    ·
      refine xaload_n C 0 rfl dX6_tick_22 ?_
      refine xiload_n C 1 rfl dX6_tick_23 ?_
      refine xcVR C (c_X6_mixed sd x hsd) yk_X6_mixed 0 rfl rfl xml_X6_111 ⟨⟨Nat.le_of_ble_eq_true rfl, Nat.le_of_ble_eq_true rfl⟩, ⟨rfl, rfl⟩, ⟨Nat.zero_le _, Nat.zero_le _⟩⟩ rfl (Nat.le_of_ble_eq_true rfl) dX6_tick_24 ?_
      refine xistore_n (lv' := [(3, .int (mixI sd x)), (0, .ref (b 0)), (1, .int x), (2, .int y)]) C dX6_tick_27 (by decide) rfl ?_
      refine xiload_n C 3 rfl dX6_tick_28 ?_
      refine xif_ne C 44 dX6_tick_29 (by decide) (fun h29 => ?_) (fun h29 => ?_)
      ·
        refine xiload_n C 0 rfl dX6_tick_44 ?_
        refine xldc C dX6_tick_45 xcn_X6_115 ?_
        refine xiand C dX6_tick_47 ?_
        refine xtopi (y := nI (lotN (mixI sd x))) (pk_and _ 16 (by decide +kernel)) ?_
        exact xret C hR (rfl) dX6_tick_48 (MO.mk (by rw [opTick, ci_f (fun q => q.elim (bn_1 h6).1 (bn_1 h6).2), ci_f h16, ci_f h29]) hX)
      ·
        refine xiload_n C 0 rfl dX6_tick_32 ?_
        refine xbipush (v := 16) C dX6_tick_33 (by decide) ?_
        refine xiushr C dX6_tick_35 ?_
        refine xtopi (y := nI ((mixI sd x).toBitVec.toNat / 65536)) (ush16 (mixI sd x)) ?_
        refine xaload_n C 1 rfl dX6_tick_36 ?_
        refine gX6_53K C hK dX6_tick_37 ?_
        refine xirem C dX6_tick_40 (fun q => absurd ((nI_eq (by omega) (by omega)).mp (q.trans nI_0.symm)) h16) ?_
        refine xtopi (y := nI (plN K (mixI sd x))) (pk_rem (ush16_lt _) (by omega) (by omega)) ?_
        refine xgoto C 48 dX6_tick_41 (by decide) ?_
        exact xret C hR (rfl) dX6_tick_48 (MO.mk (by rw [opTick, ci_f (fun q => q.elim (bn_1 h6).1 (bn_1 h6).2), ci_f h16, ci_t h29]) hX)
    ·
      refine xbipush (v := -3) C dX6_tick_19 (by decide) ?_
      exact xret C hR (rfl) dX6_tick_21 (MO.mk (by rw [opTick, ci_f (fun q => q.elim (bn_1 h6).1 (bn_1 h6).2), ci_t h16]) hX)
  ·
    refine xbipush (v := -2) C dX6_tick_9 (by decide) ?_
    exact xret C hR (rfl) dX6_tick_11 (MO.mk (by rw [opTick, ci_t (nand (bn_0 h6))]) hX)
theorem dX6_weightAt_0 : decode cX6_weightAt 0 = .ok (.aload_n 0, 1) := by decide +kernel
theorem dX6_weightAt_1 : decode cX6_weightAt 1 = .ok (.getfield 90, 3) := by decide +kernel
theorem dX6_weightAt_4 : decode cX6_weightAt 4 = .ok (.iconst 2, 1) := by decide +kernel
theorem dX6_weightAt_5 : decode cX6_weightAt 5 = .ok (.if_icmp .ne 24, 3) := by decide +kernel
theorem dX6_weightAt_8 : decode cX6_weightAt 8 = .ok (.iload_n 3, 1) := by decide +kernel
theorem dX6_weightAt_9 : decode cX6_weightAt 9 = .ok (.iconst 1, 1) := by decide +kernel
theorem dX6_weightAt_10 : decode cX6_weightAt 10 = .ok (.if_icmp .ne 11, 3) := by decide +kernel
theorem dX6_weightAt_13 : decode cX6_weightAt 13 = .ok (.aload_n 0, 1) := by decide +kernel
theorem dX6_weightAt_14 : decode cX6_weightAt 14 = .ok (.getfield 31, 3) := by decide +kernel
theorem dX6_weightAt_17 : decode cX6_weightAt 17 = .ok (.i2l, 1) := by decide +kernel
theorem dX6_weightAt_18 : decode cX6_weightAt 18 = .ok (.goto 12, 3) := by decide +kernel
theorem dX6_weightAt_21 : decode cX6_weightAt 21 = .ok (.aload_n 0, 1) := by decide +kernel
theorem dX6_weightAt_22 : decode cX6_weightAt 22 = .ok (.getfield 35, 3) := by decide +kernel
theorem dX6_weightAt_25 : decode cX6_weightAt 25 = .ok (.i2l, 1) := by decide +kernel
theorem dX6_weightAt_26 : decode cX6_weightAt 26 = .ok (.goto 4, 3) := by decide +kernel
theorem dX6_weightAt_29 : decode cX6_weightAt 29 = .ok (.lconst 1, 1) := by decide +kernel
theorem dX6_weightAt_30 : decode cX6_weightAt 30 = .ok (.lstore 4, 2) := by decide +kernel
theorem dX6_weightAt_32 : decode cX6_weightAt 32 = .ok (.iconst 0, 1) := by decide +kernel
theorem dX6_weightAt_33 : decode cX6_weightAt 33 = .ok (.istore 6, 2) := by decide +kernel
theorem dX6_weightAt_35 : decode cX6_weightAt 35 = .ok (.iload 6, 2) := by decide +kernel
theorem dX6_weightAt_37 : decode cX6_weightAt 37 = .ok (.aload_n 0, 1) := by decide +kernel
theorem dX6_weightAt_38 : decode cX6_weightAt 38 = .ok (.getfield 19, 3) := by decide +kernel
theorem dX6_weightAt_41 : decode cX6_weightAt 41 = .ok (.iload_n 2, 1) := by decide +kernel
theorem dX6_weightAt_42 : decode cX6_weightAt 42 = .ok (.iaload, 1) := by decide +kernel
theorem dX6_weightAt_43 : decode cX6_weightAt 43 = .ok (.if_icmp .ge 109, 3) := by decide +kernel
theorem dX6_weightAt_46 : decode cX6_weightAt 46 = .ok (.aload_n 1, 1) := by decide +kernel
theorem dX6_weightAt_47 : decode cX6_weightAt 47 = .ok (.aload_n 0, 1) := by decide +kernel
theorem dX6_weightAt_48 : decode cX6_weightAt 48 = .ok (.getfield 22, 3) := by decide +kernel
theorem dX6_weightAt_51 : decode cX6_weightAt 51 = .ok (.bipush 6, 2) := by decide +kernel
theorem dX6_weightAt_53 : decode cX6_weightAt 53 = .ok (.iload_n 2, 1) := by decide +kernel
theorem dX6_weightAt_54 : decode cX6_weightAt 54 = .ok (.imul, 1) := by decide +kernel
theorem dX6_weightAt_55 : decode cX6_weightAt 55 = .ok (.iload 6, 2) := by decide +kernel
theorem dX6_weightAt_57 : decode cX6_weightAt 57 = .ok (.iadd, 1) := by decide +kernel
theorem dX6_weightAt_58 : decode cX6_weightAt 58 = .ok (.iaload, 1) := by decide +kernel
theorem dX6_weightAt_59 : decode cX6_weightAt 59 = .ok (.iaload, 1) := by decide +kernel
theorem dX6_weightAt_60 : decode cX6_weightAt 60 = .ok (.istore 7, 2) := by decide +kernel
theorem dX6_weightAt_62 : decode cX6_weightAt 62 = .ok (.aload_n 0, 1) := by decide +kernel
theorem dX6_weightAt_63 : decode cX6_weightAt 63 = .ok (.getfield 90, 3) := by decide +kernel
theorem dX6_weightAt_66 : decode cX6_weightAt 66 = .ok (.ifCond .ne 30, 3) := by decide +kernel
theorem dX6_weightAt_69 : decode cX6_weightAt 69 = .ok (.lload 4, 2) := by decide +kernel
theorem dX6_weightAt_71 : decode cX6_weightAt 71 = .ok (.iload_n 3, 1) := by decide +kernel
theorem dX6_weightAt_72 : decode cX6_weightAt 72 = .ok (.iload 7, 2) := by decide +kernel
theorem dX6_weightAt_74 : decode cX6_weightAt 74 = .ok (.if_icmp .ne 11, 3) := by decide +kernel
theorem dX6_weightAt_77 : decode cX6_weightAt 77 = .ok (.aload_n 0, 1) := by decide +kernel
theorem dX6_weightAt_78 : decode cX6_weightAt 78 = .ok (.getfield 31, 3) := by decide +kernel
theorem dX6_weightAt_81 : decode cX6_weightAt 81 = .ok (.i2l, 1) := by decide +kernel
theorem dX6_weightAt_82 : decode cX6_weightAt 82 = .ok (.goto 8, 3) := by decide +kernel
theorem dX6_weightAt_85 : decode cX6_weightAt 85 = .ok (.aload_n 0, 1) := by decide +kernel
theorem dX6_weightAt_86 : decode cX6_weightAt 86 = .ok (.getfield 35, 3) := by decide +kernel
theorem dX6_weightAt_89 : decode cX6_weightAt 89 = .ok (.i2l, 1) := by decide +kernel
theorem dX6_weightAt_90 : decode cX6_weightAt 90 = .ok (.lmul, 1) := by decide +kernel
theorem dX6_weightAt_91 : decode cX6_weightAt 91 = .ok (.lstore 4, 2) := by decide +kernel
theorem dX6_weightAt_93 : decode cX6_weightAt 93 = .ok (.goto 53, 3) := by decide +kernel
theorem dX6_weightAt_96 : decode cX6_weightAt 96 = .ok (.aload_n 0, 1) := by decide +kernel
theorem dX6_weightAt_97 : decode cX6_weightAt 97 = .ok (.getfield 90, 3) := by decide +kernel
theorem dX6_weightAt_100 : decode cX6_weightAt 100 = .ok (.iconst 1, 1) := by decide +kernel
theorem dX6_weightAt_101 : decode cX6_weightAt 101 = .ok (.if_icmp .ne 26, 3) := by decide +kernel
theorem dX6_weightAt_104 : decode cX6_weightAt 104 = .ok (.iload_n 3, 1) := by decide +kernel
theorem dX6_weightAt_105 : decode cX6_weightAt 105 = .ok (.iload 7, 2) := by decide +kernel
theorem dX6_weightAt_107 : decode cX6_weightAt 107 = .ok (.isub, 1) := by decide +kernel
theorem dX6_weightAt_108 : decode cX6_weightAt 108 = .ok (.iconst (-1), 1) := by decide +kernel
theorem dX6_weightAt_109 : decode cX6_weightAt 109 = .ok (.iconst 1, 1) := by decide +kernel
theorem dX6_weightAt_110 : decode cX6_weightAt 110 = .ok (.invokestatic 56, 3) := by decide +kernel
theorem dX6_weightAt_113 : decode cX6_weightAt 113 = .ok (.ifCond .eq 8, 3) := by decide +kernel
theorem dX6_weightAt_116 : decode cX6_weightAt 116 = .ok (.lload 4, 2) := by decide +kernel
theorem dX6_weightAt_118 : decode cX6_weightAt 118 = .ok (.goto 4, 3) := by decide +kernel
theorem dX6_weightAt_121 : decode cX6_weightAt 121 = .ok (.lconst 0, 1) := by decide +kernel
theorem dX6_weightAt_122 : decode cX6_weightAt 122 = .ok (.lstore 4, 2) := by decide +kernel
theorem dX6_weightAt_124 : decode cX6_weightAt 124 = .ok (.goto 22, 3) := by decide +kernel
theorem dX6_weightAt_127 : decode cX6_weightAt 127 = .ok (.iload_n 3, 1) := by decide +kernel
theorem dX6_weightAt_128 : decode cX6_weightAt 128 = .ok (.iconst 1, 1) := by decide +kernel
theorem dX6_weightAt_129 : decode cX6_weightAt 129 = .ok (.if_icmp .ne 13, 3) := by decide +kernel
theorem dX6_weightAt_132 : decode cX6_weightAt 132 = .ok (.iload 7, 2) := by decide +kernel
theorem dX6_weightAt_134 : decode cX6_weightAt 134 = .ok (.iconst 1, 1) := by decide +kernel
theorem dX6_weightAt_135 : decode cX6_weightAt 135 = .ok (.if_icmp .ne 7, 3) := by decide +kernel
theorem dX6_weightAt_138 : decode cX6_weightAt 138 = .ok (.lconst 0, 1) := by decide +kernel
theorem dX6_weightAt_139 : decode cX6_weightAt 139 = .ok (.goto 5, 3) := by decide +kernel
theorem dX6_weightAt_142 : decode cX6_weightAt 142 = .ok (.lload 4, 2) := by decide +kernel
theorem dX6_weightAt_144 : decode cX6_weightAt 144 = .ok (.lstore 4, 2) := by decide +kernel
theorem dX6_weightAt_146 : decode cX6_weightAt 146 = .ok (.iinc 6 1, 3) := by decide +kernel
theorem dX6_weightAt_149 : decode cX6_weightAt 149 = .ok (.goto (-114), 3) := by decide +kernel
theorem dX6_weightAt_152 : decode cX6_weightAt 152 = .ok (.lload 4, 2) := by decide +kernel
theorem dX6_weightAt_154 : decode cX6_weightAt 154 = .ok (.lreturn, 1) := by decide +kernel
def rX6_weightAt : Room := { frames := 1, cells := 0, slots := 0, locals := 22 }
theorem yk_X6_weightAt : YK yX6_weightAt cX6_weightAt 8 (some .long) 3 := ⟨xim_X6_weightAt, xse_X6_weightAt, xin_X6, xco_X6_weightAt, by decide +kernel⟩
set_option maxRecDepth 4000 in
theorem c_X6_weightAt {l : Launch} {D : va_G} {t : Nat → ClassId} {b : Nat → Nat} {I : Nat → Int32} {F : Nat → Nat → Int32} {K : Cfg} (hK : CFG K I F) (hW : WFK K) (j : Nat) (h8 : 8 ≤ j) (hj : j < 13) {f : Nat → Nat} (hS : RA (kn K) (F j) f) (p : Nat) (hp : p < kn K) (x : Nat) (hx : x ≤ mostN K p) (hh : ¬ (kk K = 1 ∧ khd K p ≠ 0)) : CT l D t yX6_weightAt cX6_weightAt 8 (some .long) rX6_weightAt 0 0 [.ref (b 0), .ref (b j), .int (nI p), .int (nI x)] (WM b t I F) (RP (.long (lN (waN K f p x))) (WM b t I F)) := by
  refine CT.of (by decide +kernel) (by simp [lg_sl, Value.category]) (fun X C hR => ?_)
  refine xlocals (lv' := [(0, .ref (b 0)), (1, .ref (b j)), (2, .int (nI p)), (3, .int (nI x))]) rfl ?_
  have fn24 := hW.n24; have fm60 := hW.m60; have fk2 := hW.k2; have fu1 := hW.u1; have fu9 := hW.u9; have fv1 := hW.v1; have fv9 := hW.v9
  have hm5 := mostN_le hW hp
  refine xaload_n C 0 rfl dX6_weightAt_0 ?_
  refine gX6_90K C hK dX6_weightAt_1 ?_
  refine xiconst (v := nI 2) C dX6_weightAt_4 (by decide) ?_
  refine xicmp_neN C 29 dX6_weightAt_5 (by decide) (by omega) (by omega) (fun h5 => ?_) (fun h5 => ?_)
  ·
    refine xlconst (v := lN 1) C dX6_weightAt_29 (by decide) ?_
    refine xtopl (y := lN (pwN K p x)) (by rw [pw_free hx hh, if_neg (by omega)]) ?_
    refine xlstore (lv' := [(4, .long (lN (pwN K p x))), (0, .ref (b 0)), (1, .ref (b j)), (2, .int (nI p)), (3, .int (nI x))]) C dX6_weightAt_30 (by decide) rfl ?_
    refine xlocals (lv' := [(4, .long (lN (pwN K p x * pr (fun i => lwN K x (f (knb K p i))) 0))), (0, .ref (b 0)), (1, .ref (b j)), (2, .int (nI p)), (3, .int (nI x))]) (by rw [show pr (fun i => lwN K x (f (knb K p i))) 0 = 1 from rfl, Nat.mul_one]) ?_
    refine xiconst (v := nI 0) C dX6_weightAt_32 (by decide) ?_
    refine xistore (lv' := [(6, .int (nI 0)), (4, .long (lN (pwN K p x * pr (fun i => lwN K x (f (knb K p i))) 0))), (0, .ref (b 0)), (1, .ref (b j)), (2, .int (nI p)), (3, .int (nI x))]) C dX6_weightAt_33 (by decide) rfl ?_
    have LP35 : ∀ (fu35 : Nat) (i : Nat) (hi : i ≤ kdg K p), kdg K p - i < fu35 → XW X 0 0 (WM b t I F) [(0, .ref (b 0)), (1, .ref (b j)), (2, .int (nI p)), (3, .int (nI x)), (4, .long (lN (pwN K p x * pr (fun i => lwN K x (f (knb K p i))) i))), (6, .int (nI i))] 35 [] := by
      intro fu35
      induction fu35 with
      | zero => intro i hi hm35; exact absurd hm35 (Nat.not_lt_zero _)
      | succ fu35 ih35 =>
        intro i hi hm35
        refine xiload C 5 rfl dX6_weightAt_35 ?_
        refine xaload_n C 0 rfl dX6_weightAt_37 ?_
        refine gX6_19 C dX6_weightAt_38 ?_
        refine xiload_n C 2 rfl dX6_weightAt_41 ?_
        refine ma_dg C hK hW p (by omega) dX6_weightAt_42 ?_
        have fb42 := hW.dg6 p
        refine xicmp_geN C 152 dX6_weightAt_43 (by decide) (by omega) (by omega) (fun h43 => ?_) (fun h43 => ?_)
        ·
          refine xlload C 4 rfl dX6_weightAt_152 ?_
          exact xlret C hR dX6_weightAt_154 (RPl (by (have e : i = kdg K p := (by omega)); subst e; rfl))
        ·
          refine xaload_n C 1 rfl dX6_weightAt_46 ?_
          refine xaload_n C 0 rfl dX6_weightAt_47 ?_
          refine gX6_22 C dX6_weightAt_48 ?_
          refine xbipush (v := nI 6) C dX6_weightAt_51 (by decide) ?_
          refine xiload_n C 2 rfl dX6_weightAt_53 ?_
          refine ximulN C dX6_weightAt_54 ?_
          refine xiload C 5 rfl dX6_weightAt_55 ?_
          refine xiaddN C dX6_weightAt_57 ?_
          refine ma_nb C hK hW p i (by omega) (by omega) dX6_weightAt_58 ?_
          have fb58 := hW.nb (show p < kn K by omega) (show i < kdg K p by omega)
          refine ma_st C hW j h8 hj hS (knb K p i) (by omega) dX6_weightAt_59 ?_
          have fb59 := (hS (knb K p i) (by omega)).2
          refine xistore (lv' := [(7, .int (nI (f (knb K p i)))), (0, .ref (b 0)), (1, .ref (b j)), (2, .int (nI p)), (3, .int (nI x)), (4, .long (lN (pwN K p x * pr (fun i => lwN K x (f (knb K p i))) i))), (6, .int (nI i))]) C dX6_weightAt_60 (by decide) rfl ?_
          refine xaload_n C 1 rfl dX6_weightAt_62 ?_
          refine gX6_90K C hK dX6_weightAt_63 ?_
          refine xif_neN C 96 dX6_weightAt_66 (by decide) (by omega) (fun h66 => ?_) (fun h66 => ?_)
          ·
            refine xaload_n C 1 rfl dX6_weightAt_96 ?_
            refine gX6_90K C hK dX6_weightAt_97 ?_
            refine xiconst (v := nI 1) C dX6_weightAt_100 (by decide) ?_
            refine xicmp_neN C 127 dX6_weightAt_101 (by decide) (by omega) (by omega) (fun h101 => ?_) (fun h101 => ?_)
            ·
              refine xiload_n C 4 rfl dX6_weightAt_127 ?_
              refine xiconst (v := nI 1) C dX6_weightAt_128 (by decide) ?_
              refine xicmp_neN C 142 dX6_weightAt_129 (by decide) (by omega) (by omega) (fun h129 => ?_) (fun h129 => ?_)
              ·
                refine xlload C 5 rfl dX6_weightAt_142 ?_
                refine xlstore (lv' := [(4, .long (lN (pwN K p x * pr (fun i => lwN K x (f (knb K p i))) i))), (7, .int (nI (f (knb K p i)))), (0, .ref (b 0)), (1, .ref (b j)), (2, .int (nI p)), (3, .int (nI x)), (6, .int (nI i))]) C dX6_weightAt_144 (by decide) rfl ?_
                refine xlocals (lv' := [(4, .long (lN (pwN K p x * pr (fun i => lwN K x (f (knb K p i))) (i + 1)))), (7, .int (nI (f (knb K p i)))), (0, .ref (b 0)), (1, .ref (b j)), (2, .int (nI p)), (3, .int (nI x)), (6, .int (nI i))]) (by rw [wone (g := (fun i => lwN K x (f (knb K p i)))) ((lw_2v (by omega)).trans (if_neg (by omega)))]) ?_
                refine xiincN (lv' := [(6, .int (nI (i + 1))), (4, .long (lN (pwN K p x * pr (fun i => lwN K x (f (knb K p i))) (i + 1)))), (7, .int (nI (f (knb K p i)))), (0, .ref (b 0)), (1, .ref (b j)), (2, .int (nI p)), (3, .int (nI x))]) C 6 rfl dX6_weightAt_146 (by decide) rfl ?_
                refine xgoto C 35 dX6_weightAt_149 (by decide) ?_
                refine xsub [3, 4, 5, 6, 1, 0] rfl ?_
                exact ih35 (i + 1) (by omega) (by omega)
              ·
                refine xiload C 0 rfl dX6_weightAt_132 ?_
                refine xiconst (v := nI 1) C dX6_weightAt_134 (by decide) ?_
                refine xicmp_neN C 142 dX6_weightAt_135 (by decide) (by omega) (by omega) (fun h135 => ?_) (fun h135 => ?_)
                ·
                  refine xlload C 5 rfl dX6_weightAt_142 ?_
                  refine xlstore (lv' := [(4, .long (lN (pwN K p x * pr (fun i => lwN K x (f (knb K p i))) i))), (7, .int (nI (f (knb K p i)))), (0, .ref (b 0)), (1, .ref (b j)), (2, .int (nI p)), (3, .int (nI x)), (6, .int (nI i))]) C dX6_weightAt_144 (by decide) rfl ?_
                  refine xlocals (lv' := [(4, .long (lN (pwN K p x * pr (fun i => lwN K x (f (knb K p i))) (i + 1)))), (7, .int (nI (f (knb K p i)))), (0, .ref (b 0)), (1, .ref (b j)), (2, .int (nI p)), (3, .int (nI x)), (6, .int (nI i))]) (by rw [wone (g := (fun i => lwN K x (f (knb K p i)))) ((lw_2v (by omega)).trans (if_neg (by omega)))]) ?_
                  refine xiincN (lv' := [(6, .int (nI (i + 1))), (4, .long (lN (pwN K p x * pr (fun i => lwN K x (f (knb K p i))) (i + 1)))), (7, .int (nI (f (knb K p i)))), (0, .ref (b 0)), (1, .ref (b j)), (2, .int (nI p)), (3, .int (nI x))]) C 6 rfl dX6_weightAt_146 (by decide) rfl ?_
                  refine xgoto C 35 dX6_weightAt_149 (by decide) ?_
                  refine xsub [3, 4, 5, 6, 1, 0] rfl ?_
                  exact ih35 (i + 1) (by omega) (by omega)
                ·
                  refine xlconst (v := lN 0) C dX6_weightAt_138 (by decide) ?_
                  refine xgoto C 144 dX6_weightAt_139 (by decide) ?_
                  refine xlstore (lv' := [(4, .long (lN 0)), (7, .int (nI (f (knb K p i)))), (0, .ref (b 0)), (1, .ref (b j)), (2, .int (nI p)), (3, .int (nI x)), (6, .int (nI i))]) C dX6_weightAt_144 (by decide) rfl ?_
                  refine xlocals (lv' := [(4, .long (lN (pwN K p x * pr (fun i => lwN K x (f (knb K p i))) (i + 1)))), (7, .int (nI (f (knb K p i)))), (0, .ref (b 0)), (1, .ref (b j)), (2, .int (nI p)), (3, .int (nI x)), (6, .int (nI i))]) (by rw [wzero (g := (fun i => lwN K x (f (knb K p i)))) ((lw_2v (by omega)).trans (if_pos ⟨by omega, by omega⟩))]) ?_
                  refine xiincN (lv' := [(6, .int (nI (i + 1))), (4, .long (lN (pwN K p x * pr (fun i => lwN K x (f (knb K p i))) (i + 1)))), (7, .int (nI (f (knb K p i)))), (0, .ref (b 0)), (1, .ref (b j)), (2, .int (nI p)), (3, .int (nI x))]) C 6 rfl dX6_weightAt_146 (by decide) rfl ?_
                  refine xgoto C 35 dX6_weightAt_149 (by decide) ?_
                  refine xsub [3, 4, 5, 6, 1, 0] rfl ?_
                  exact ih35 (i + 1) (by omega) (by omega)
            ·
              refine xiload_n C 4 rfl dX6_weightAt_104 ?_
              refine xiload C 0 rfl dX6_weightAt_105 ?_
              refine xisub C dX6_weightAt_107 ?_
              refine xiconst (v := -1) C dX6_weightAt_108 (by decide) ?_
              refine xiconst (v := 1) C dX6_weightAt_109 (by decide) ?_
              refine xcSR C (c_X6_in ((nI x) - (nI (f (knb K p i)))) (-1) 1) sk_X6_in xml_X6_56 ⟨⟨Nat.le_of_ble_eq_true rfl, Nat.le_of_ble_eq_true rfl⟩, ⟨rfl, rfl⟩, ⟨Nat.zero_le _, Nat.zero_le _⟩⟩ rfl (Nat.le_of_ble_eq_true rfl) dX6_weightAt_110 ?_
              refine xif_eqN C 121 dX6_weightAt_113 (by decide) (bn_lt _) (fun h113 => ?_) (fun h113 => ?_)
              ·
                refine xlconst (v := lN 0) C dX6_weightAt_121 (by decide) ?_
                refine xlstore (lv' := [(4, .long (lN 0)), (7, .int (nI (f (knb K p i)))), (0, .ref (b 0)), (1, .ref (b j)), (2, .int (nI p)), (3, .int (nI x)), (6, .int (nI i))]) C dX6_weightAt_122 (by decide) rfl ?_
                refine xgoto C 146 dX6_weightAt_124 (by decide) ?_
                refine xlocals (lv' := [(4, .long (lN (pwN K p x * pr (fun i => lwN K x (f (knb K p i))) (i + 1)))), (7, .int (nI (f (knb K p i)))), (0, .ref (b 0)), (1, .ref (b j)), (2, .int (nI p)), (3, .int (nI x)), (6, .int (nI i))]) (by rw [wzero (g := (fun i => lwN K x (f (knb K p i)))) ((lw_1v h101).trans (if_neg (fun z => bn_0 h113 (inm1r (by omega) (by omega) z))))]) ?_
                refine xiincN (lv' := [(6, .int (nI (i + 1))), (4, .long (lN (pwN K p x * pr (fun i => lwN K x (f (knb K p i))) (i + 1)))), (7, .int (nI (f (knb K p i)))), (0, .ref (b 0)), (1, .ref (b j)), (2, .int (nI p)), (3, .int (nI x))]) C 6 rfl dX6_weightAt_146 (by decide) rfl ?_
                refine xgoto C 35 dX6_weightAt_149 (by decide) ?_
                refine xsub [3, 4, 5, 6, 1, 0] rfl ?_
                exact ih35 (i + 1) (by omega) (by omega)
              ·
                refine xlload C 5 rfl dX6_weightAt_116 ?_
                refine xgoto C 122 dX6_weightAt_118 (by decide) ?_
                refine xlstore (lv' := [(4, .long (lN (pwN K p x * pr (fun i => lwN K x (f (knb K p i))) i))), (7, .int (nI (f (knb K p i)))), (0, .ref (b 0)), (1, .ref (b j)), (2, .int (nI p)), (3, .int (nI x)), (6, .int (nI i))]) C dX6_weightAt_122 (by decide) rfl ?_
                refine xgoto C 146 dX6_weightAt_124 (by decide) ?_
                refine xlocals (lv' := [(4, .long (lN (pwN K p x * pr (fun i => lwN K x (f (knb K p i))) (i + 1)))), (7, .int (nI (f (knb K p i)))), (0, .ref (b 0)), (1, .ref (b j)), (2, .int (nI p)), (3, .int (nI x)), (6, .int (nI i))]) (by rw [wone (g := (fun i => lwN K x (f (knb K p i)))) ((lw_1v h101).trans (if_pos (inm1 (by omega) (by omega) (bn_1 h113))))]) ?_
                refine xiincN (lv' := [(6, .int (nI (i + 1))), (4, .long (lN (pwN K p x * pr (fun i => lwN K x (f (knb K p i))) (i + 1)))), (7, .int (nI (f (knb K p i)))), (0, .ref (b 0)), (1, .ref (b j)), (2, .int (nI p)), (3, .int (nI x))]) C 6 rfl dX6_weightAt_146 (by decide) rfl ?_
                refine xgoto C 35 dX6_weightAt_149 (by decide) ?_
                refine xsub [3, 4, 5, 6, 1, 0] rfl ?_
                exact ih35 (i + 1) (by omega) (by omega)
          ·
            refine xlload C 5 rfl dX6_weightAt_69 ?_
            refine xiload_n C 4 rfl dX6_weightAt_71 ?_
            refine xiload C 0 rfl dX6_weightAt_72 ?_
            refine xicmp_neN C 85 dX6_weightAt_74 (by decide) (by omega) (by omega) (fun h74 => ?_) (fun h74 => ?_)
            ·
              refine xaload_n C 1 rfl dX6_weightAt_85 ?_
              refine gX6_35K C hK dX6_weightAt_86 ?_
              refine xi2lN C (by omega) dX6_weightAt_89 ?_
              refine xlmulN C dX6_weightAt_90 ?_
              refine xlstore (lv' := [(4, .long (lN ((pwN K p x * pr (fun i => lwN K x (f (knb K p i))) i) * (kv K)))), (7, .int (nI (f (knb K p i)))), (0, .ref (b 0)), (1, .ref (b j)), (2, .int (nI p)), (3, .int (nI x)), (6, .int (nI i))]) C dX6_weightAt_91 (by decide) rfl ?_
              refine xgoto C 146 dX6_weightAt_93 (by decide) ?_
              refine xlocals (lv' := [(4, .long (lN (pwN K p x * pr (fun i => lwN K x (f (knb K p i))) (i + 1)))), (7, .int (nI (f (knb K p i)))), (0, .ref (b 0)), (1, .ref (b j)), (2, .int (nI p)), (3, .int (nI x)), (6, .int (nI i))]) (by rw [wstep (g := (fun i => lwN K x (f (knb K p i)))) (lwn_0 h66 h74)]) ?_
              refine xiincN (lv' := [(6, .int (nI (i + 1))), (4, .long (lN (pwN K p x * pr (fun i => lwN K x (f (knb K p i))) (i + 1)))), (7, .int (nI (f (knb K p i)))), (0, .ref (b 0)), (1, .ref (b j)), (2, .int (nI p)), (3, .int (nI x))]) C 6 rfl dX6_weightAt_146 (by decide) rfl ?_
              refine xgoto C 35 dX6_weightAt_149 (by decide) ?_
              refine xsub [3, 4, 5, 6, 1, 0] rfl ?_
              exact ih35 (i + 1) (by omega) (by omega)
            ·
              refine xaload_n C 1 rfl dX6_weightAt_77 ?_
              refine gX6_31K C hK dX6_weightAt_78 ?_
              refine xi2lN C (by omega) dX6_weightAt_81 ?_
              refine xgoto C 90 dX6_weightAt_82 (by decide) ?_
              refine xlmulN C dX6_weightAt_90 ?_
              refine xlstore (lv' := [(4, .long (lN ((pwN K p x * pr (fun i => lwN K x (f (knb K p i))) i) * (ku K)))), (7, .int (nI (f (knb K p i)))), (0, .ref (b 0)), (1, .ref (b j)), (2, .int (nI p)), (3, .int (nI x)), (6, .int (nI i))]) C dX6_weightAt_91 (by decide) rfl ?_
              refine xgoto C 146 dX6_weightAt_93 (by decide) ?_
              refine xlocals (lv' := [(4, .long (lN (pwN K p x * pr (fun i => lwN K x (f (knb K p i))) (i + 1)))), (7, .int (nI (f (knb K p i)))), (0, .ref (b 0)), (1, .ref (b j)), (2, .int (nI p)), (3, .int (nI x)), (6, .int (nI i))]) (by rw [wstep (g := (fun i => lwN K x (f (knb K p i)))) (lwe_0 h66 h74)]) ?_
              refine xiincN (lv' := [(6, .int (nI (i + 1))), (4, .long (lN (pwN K p x * pr (fun i => lwN K x (f (knb K p i))) (i + 1)))), (7, .int (nI (f (knb K p i)))), (0, .ref (b 0)), (1, .ref (b j)), (2, .int (nI p)), (3, .int (nI x))]) C 6 rfl dX6_weightAt_146 (by decide) rfl ?_
              refine xgoto C 35 dX6_weightAt_149 (by decide) ?_
              refine xsub [3, 4, 5, 6, 1, 0] rfl ?_
              exact ih35 (i + 1) (by omega) (by omega)
    refine xsub [2, 3, 4, 5, 1, 0] rfl ?_
    exact LP35 _ 0 (Nat.zero_le _) (Nat.lt_succ_self _)
  ·
    refine xiload_n C 3 rfl dX6_weightAt_8 ?_
    refine xiconst (v := nI 1) C dX6_weightAt_9 (by decide) ?_
    refine xicmp_neN C 21 dX6_weightAt_10 (by decide) (by omega) (by omega) (fun h10 => ?_) (fun h10 => ?_)
    ·
      refine xaload_n C 0 rfl dX6_weightAt_21 ?_
      refine gX6_35K C hK dX6_weightAt_22 ?_
      refine xi2lN C (by omega) dX6_weightAt_25 ?_
      refine xgoto C 30 dX6_weightAt_26 (by decide) ?_
      refine xtopl (y := lN (pwN K p x)) (by rw [pw_free hx hh, if_pos (by omega), if_neg (by omega)]) ?_
      refine xlstore (lv' := [(4, .long (lN (pwN K p x))), (0, .ref (b 0)), (1, .ref (b j)), (2, .int (nI p)), (3, .int (nI x))]) C dX6_weightAt_30 (by decide) rfl ?_
      refine xlocals (lv' := [(4, .long (lN (pwN K p x * pr (fun i => lwN K x (f (knb K p i))) 0))), (0, .ref (b 0)), (1, .ref (b j)), (2, .int (nI p)), (3, .int (nI x))]) (by rw [show pr (fun i => lwN K x (f (knb K p i))) 0 = 1 from rfl, Nat.mul_one]) ?_
      refine xiconst (v := nI 0) C dX6_weightAt_32 (by decide) ?_
      refine xistore (lv' := [(6, .int (nI 0)), (4, .long (lN (pwN K p x * pr (fun i => lwN K x (f (knb K p i))) 0))), (0, .ref (b 0)), (1, .ref (b j)), (2, .int (nI p)), (3, .int (nI x))]) C dX6_weightAt_33 (by decide) rfl ?_
      have LP35 : ∀ (fu35 : Nat) (i : Nat) (hi : i ≤ kdg K p), kdg K p - i < fu35 → XW X 0 0 (WM b t I F) [(0, .ref (b 0)), (1, .ref (b j)), (2, .int (nI p)), (3, .int (nI x)), (4, .long (lN (pwN K p x * pr (fun i => lwN K x (f (knb K p i))) i))), (6, .int (nI i))] 35 [] := by
        intro fu35
        induction fu35 with
        | zero => intro i hi hm35; exact absurd hm35 (Nat.not_lt_zero _)
        | succ fu35 ih35 =>
          intro i hi hm35
          refine xiload C 5 rfl dX6_weightAt_35 ?_
          refine xaload_n C 0 rfl dX6_weightAt_37 ?_
          refine gX6_19 C dX6_weightAt_38 ?_
          refine xiload_n C 2 rfl dX6_weightAt_41 ?_
          refine ma_dg C hK hW p (by omega) dX6_weightAt_42 ?_
          have fb42 := hW.dg6 p
          refine xicmp_geN C 152 dX6_weightAt_43 (by decide) (by omega) (by omega) (fun h43 => ?_) (fun h43 => ?_)
          ·
            refine xlload C 4 rfl dX6_weightAt_152 ?_
            exact xlret C hR dX6_weightAt_154 (RPl (by (have e : i = kdg K p := (by omega)); subst e; rfl))
          ·
            refine xaload_n C 1 rfl dX6_weightAt_46 ?_
            refine xaload_n C 0 rfl dX6_weightAt_47 ?_
            refine gX6_22 C dX6_weightAt_48 ?_
            refine xbipush (v := nI 6) C dX6_weightAt_51 (by decide) ?_
            refine xiload_n C 2 rfl dX6_weightAt_53 ?_
            refine ximulN C dX6_weightAt_54 ?_
            refine xiload C 5 rfl dX6_weightAt_55 ?_
            refine xiaddN C dX6_weightAt_57 ?_
            refine ma_nb C hK hW p i (by omega) (by omega) dX6_weightAt_58 ?_
            have fb58 := hW.nb (show p < kn K by omega) (show i < kdg K p by omega)
            refine ma_st C hW j h8 hj hS (knb K p i) (by omega) dX6_weightAt_59 ?_
            have fb59 := (hS (knb K p i) (by omega)).2
            refine xistore (lv' := [(7, .int (nI (f (knb K p i)))), (0, .ref (b 0)), (1, .ref (b j)), (2, .int (nI p)), (3, .int (nI x)), (4, .long (lN (pwN K p x * pr (fun i => lwN K x (f (knb K p i))) i))), (6, .int (nI i))]) C dX6_weightAt_60 (by decide) rfl ?_
            refine xaload_n C 1 rfl dX6_weightAt_62 ?_
            refine gX6_90K C hK dX6_weightAt_63 ?_
            refine xif_neN C 96 dX6_weightAt_66 (by decide) (by omega) (fun h66 => ?_) (fun h66 => ?_)
            ·
              refine xaload_n C 1 rfl dX6_weightAt_96 ?_
              refine gX6_90K C hK dX6_weightAt_97 ?_
              refine xiconst (v := nI 1) C dX6_weightAt_100 (by decide) ?_
              refine xicmp_neN C 127 dX6_weightAt_101 (by decide) (by omega) (by omega) (fun h101 => ?_) (fun h101 => ?_)
              ·
                refine xiload_n C 4 rfl dX6_weightAt_127 ?_
                refine xiconst (v := nI 1) C dX6_weightAt_128 (by decide) ?_
                refine xicmp_neN C 142 dX6_weightAt_129 (by decide) (by omega) (by omega) (fun h129 => ?_) (fun h129 => ?_)
                ·
                  refine xlload C 5 rfl dX6_weightAt_142 ?_
                  refine xlstore (lv' := [(4, .long (lN (pwN K p x * pr (fun i => lwN K x (f (knb K p i))) i))), (7, .int (nI (f (knb K p i)))), (0, .ref (b 0)), (1, .ref (b j)), (2, .int (nI p)), (3, .int (nI x)), (6, .int (nI i))]) C dX6_weightAt_144 (by decide) rfl ?_
                  refine xlocals (lv' := [(4, .long (lN (pwN K p x * pr (fun i => lwN K x (f (knb K p i))) (i + 1)))), (7, .int (nI (f (knb K p i)))), (0, .ref (b 0)), (1, .ref (b j)), (2, .int (nI p)), (3, .int (nI x)), (6, .int (nI i))]) (by rw [wone (g := (fun i => lwN K x (f (knb K p i)))) ((lw_2v (by omega)).trans (if_neg (by omega)))]) ?_
                  refine xiincN (lv' := [(6, .int (nI (i + 1))), (4, .long (lN (pwN K p x * pr (fun i => lwN K x (f (knb K p i))) (i + 1)))), (7, .int (nI (f (knb K p i)))), (0, .ref (b 0)), (1, .ref (b j)), (2, .int (nI p)), (3, .int (nI x))]) C 6 rfl dX6_weightAt_146 (by decide) rfl ?_
                  refine xgoto C 35 dX6_weightAt_149 (by decide) ?_
                  refine xsub [3, 4, 5, 6, 1, 0] rfl ?_
                  exact ih35 (i + 1) (by omega) (by omega)
                ·
                  refine xiload C 0 rfl dX6_weightAt_132 ?_
                  refine xiconst (v := nI 1) C dX6_weightAt_134 (by decide) ?_
                  refine xicmp_neN C 142 dX6_weightAt_135 (by decide) (by omega) (by omega) (fun h135 => ?_) (fun h135 => ?_)
                  ·
                    refine xlload C 5 rfl dX6_weightAt_142 ?_
                    refine xlstore (lv' := [(4, .long (lN (pwN K p x * pr (fun i => lwN K x (f (knb K p i))) i))), (7, .int (nI (f (knb K p i)))), (0, .ref (b 0)), (1, .ref (b j)), (2, .int (nI p)), (3, .int (nI x)), (6, .int (nI i))]) C dX6_weightAt_144 (by decide) rfl ?_
                    refine xlocals (lv' := [(4, .long (lN (pwN K p x * pr (fun i => lwN K x (f (knb K p i))) (i + 1)))), (7, .int (nI (f (knb K p i)))), (0, .ref (b 0)), (1, .ref (b j)), (2, .int (nI p)), (3, .int (nI x)), (6, .int (nI i))]) (by rw [wone (g := (fun i => lwN K x (f (knb K p i)))) ((lw_2v (by omega)).trans (if_neg (by omega)))]) ?_
                    refine xiincN (lv' := [(6, .int (nI (i + 1))), (4, .long (lN (pwN K p x * pr (fun i => lwN K x (f (knb K p i))) (i + 1)))), (7, .int (nI (f (knb K p i)))), (0, .ref (b 0)), (1, .ref (b j)), (2, .int (nI p)), (3, .int (nI x))]) C 6 rfl dX6_weightAt_146 (by decide) rfl ?_
                    refine xgoto C 35 dX6_weightAt_149 (by decide) ?_
                    refine xsub [3, 4, 5, 6, 1, 0] rfl ?_
                    exact ih35 (i + 1) (by omega) (by omega)
                  ·
                    refine xlconst (v := lN 0) C dX6_weightAt_138 (by decide) ?_
                    refine xgoto C 144 dX6_weightAt_139 (by decide) ?_
                    refine xlstore (lv' := [(4, .long (lN 0)), (7, .int (nI (f (knb K p i)))), (0, .ref (b 0)), (1, .ref (b j)), (2, .int (nI p)), (3, .int (nI x)), (6, .int (nI i))]) C dX6_weightAt_144 (by decide) rfl ?_
                    refine xlocals (lv' := [(4, .long (lN (pwN K p x * pr (fun i => lwN K x (f (knb K p i))) (i + 1)))), (7, .int (nI (f (knb K p i)))), (0, .ref (b 0)), (1, .ref (b j)), (2, .int (nI p)), (3, .int (nI x)), (6, .int (nI i))]) (by rw [wzero (g := (fun i => lwN K x (f (knb K p i)))) ((lw_2v (by omega)).trans (if_pos ⟨by omega, by omega⟩))]) ?_
                    refine xiincN (lv' := [(6, .int (nI (i + 1))), (4, .long (lN (pwN K p x * pr (fun i => lwN K x (f (knb K p i))) (i + 1)))), (7, .int (nI (f (knb K p i)))), (0, .ref (b 0)), (1, .ref (b j)), (2, .int (nI p)), (3, .int (nI x))]) C 6 rfl dX6_weightAt_146 (by decide) rfl ?_
                    refine xgoto C 35 dX6_weightAt_149 (by decide) ?_
                    refine xsub [3, 4, 5, 6, 1, 0] rfl ?_
                    exact ih35 (i + 1) (by omega) (by omega)
              ·
                refine xiload_n C 4 rfl dX6_weightAt_104 ?_
                refine xiload C 0 rfl dX6_weightAt_105 ?_
                refine xisub C dX6_weightAt_107 ?_
                refine xiconst (v := -1) C dX6_weightAt_108 (by decide) ?_
                refine xiconst (v := 1) C dX6_weightAt_109 (by decide) ?_
                refine xcSR C (c_X6_in ((nI x) - (nI (f (knb K p i)))) (-1) 1) sk_X6_in xml_X6_56 ⟨⟨Nat.le_of_ble_eq_true rfl, Nat.le_of_ble_eq_true rfl⟩, ⟨rfl, rfl⟩, ⟨Nat.zero_le _, Nat.zero_le _⟩⟩ rfl (Nat.le_of_ble_eq_true rfl) dX6_weightAt_110 ?_
                refine xif_eqN C 121 dX6_weightAt_113 (by decide) (bn_lt _) (fun h113 => ?_) (fun h113 => ?_)
                ·
                  refine xlconst (v := lN 0) C dX6_weightAt_121 (by decide) ?_
                  refine xlstore (lv' := [(4, .long (lN 0)), (7, .int (nI (f (knb K p i)))), (0, .ref (b 0)), (1, .ref (b j)), (2, .int (nI p)), (3, .int (nI x)), (6, .int (nI i))]) C dX6_weightAt_122 (by decide) rfl ?_
                  refine xgoto C 146 dX6_weightAt_124 (by decide) ?_
                  refine xlocals (lv' := [(4, .long (lN (pwN K p x * pr (fun i => lwN K x (f (knb K p i))) (i + 1)))), (7, .int (nI (f (knb K p i)))), (0, .ref (b 0)), (1, .ref (b j)), (2, .int (nI p)), (3, .int (nI x)), (6, .int (nI i))]) (by rw [wzero (g := (fun i => lwN K x (f (knb K p i)))) ((lw_1v h101).trans (if_neg (fun z => bn_0 h113 (inm1r (by omega) (by omega) z))))]) ?_
                  refine xiincN (lv' := [(6, .int (nI (i + 1))), (4, .long (lN (pwN K p x * pr (fun i => lwN K x (f (knb K p i))) (i + 1)))), (7, .int (nI (f (knb K p i)))), (0, .ref (b 0)), (1, .ref (b j)), (2, .int (nI p)), (3, .int (nI x))]) C 6 rfl dX6_weightAt_146 (by decide) rfl ?_
                  refine xgoto C 35 dX6_weightAt_149 (by decide) ?_
                  refine xsub [3, 4, 5, 6, 1, 0] rfl ?_
                  exact ih35 (i + 1) (by omega) (by omega)
                ·
                  refine xlload C 5 rfl dX6_weightAt_116 ?_
                  refine xgoto C 122 dX6_weightAt_118 (by decide) ?_
                  refine xlstore (lv' := [(4, .long (lN (pwN K p x * pr (fun i => lwN K x (f (knb K p i))) i))), (7, .int (nI (f (knb K p i)))), (0, .ref (b 0)), (1, .ref (b j)), (2, .int (nI p)), (3, .int (nI x)), (6, .int (nI i))]) C dX6_weightAt_122 (by decide) rfl ?_
                  refine xgoto C 146 dX6_weightAt_124 (by decide) ?_
                  refine xlocals (lv' := [(4, .long (lN (pwN K p x * pr (fun i => lwN K x (f (knb K p i))) (i + 1)))), (7, .int (nI (f (knb K p i)))), (0, .ref (b 0)), (1, .ref (b j)), (2, .int (nI p)), (3, .int (nI x)), (6, .int (nI i))]) (by rw [wone (g := (fun i => lwN K x (f (knb K p i)))) ((lw_1v h101).trans (if_pos (inm1 (by omega) (by omega) (bn_1 h113))))]) ?_
                  refine xiincN (lv' := [(6, .int (nI (i + 1))), (4, .long (lN (pwN K p x * pr (fun i => lwN K x (f (knb K p i))) (i + 1)))), (7, .int (nI (f (knb K p i)))), (0, .ref (b 0)), (1, .ref (b j)), (2, .int (nI p)), (3, .int (nI x))]) C 6 rfl dX6_weightAt_146 (by decide) rfl ?_
                  refine xgoto C 35 dX6_weightAt_149 (by decide) ?_
                  refine xsub [3, 4, 5, 6, 1, 0] rfl ?_
                  exact ih35 (i + 1) (by omega) (by omega)
            ·
              refine xlload C 5 rfl dX6_weightAt_69 ?_
              refine xiload_n C 4 rfl dX6_weightAt_71 ?_
              refine xiload C 0 rfl dX6_weightAt_72 ?_
              refine xicmp_neN C 85 dX6_weightAt_74 (by decide) (by omega) (by omega) (fun h74 => ?_) (fun h74 => ?_)
              ·
                refine xaload_n C 1 rfl dX6_weightAt_85 ?_
                refine gX6_35K C hK dX6_weightAt_86 ?_
                refine xi2lN C (by omega) dX6_weightAt_89 ?_
                refine xlmulN C dX6_weightAt_90 ?_
                refine xlstore (lv' := [(4, .long (lN ((pwN K p x * pr (fun i => lwN K x (f (knb K p i))) i) * (kv K)))), (7, .int (nI (f (knb K p i)))), (0, .ref (b 0)), (1, .ref (b j)), (2, .int (nI p)), (3, .int (nI x)), (6, .int (nI i))]) C dX6_weightAt_91 (by decide) rfl ?_
                refine xgoto C 146 dX6_weightAt_93 (by decide) ?_
                refine xlocals (lv' := [(4, .long (lN (pwN K p x * pr (fun i => lwN K x (f (knb K p i))) (i + 1)))), (7, .int (nI (f (knb K p i)))), (0, .ref (b 0)), (1, .ref (b j)), (2, .int (nI p)), (3, .int (nI x)), (6, .int (nI i))]) (by rw [wstep (g := (fun i => lwN K x (f (knb K p i)))) (lwn_0 h66 h74)]) ?_
                refine xiincN (lv' := [(6, .int (nI (i + 1))), (4, .long (lN (pwN K p x * pr (fun i => lwN K x (f (knb K p i))) (i + 1)))), (7, .int (nI (f (knb K p i)))), (0, .ref (b 0)), (1, .ref (b j)), (2, .int (nI p)), (3, .int (nI x))]) C 6 rfl dX6_weightAt_146 (by decide) rfl ?_
                refine xgoto C 35 dX6_weightAt_149 (by decide) ?_
                refine xsub [3, 4, 5, 6, 1, 0] rfl ?_
                exact ih35 (i + 1) (by omega) (by omega)
              ·
                refine xaload_n C 1 rfl dX6_weightAt_77 ?_
                refine gX6_31K C hK dX6_weightAt_78 ?_
                refine xi2lN C (by omega) dX6_weightAt_81 ?_
                refine xgoto C 90 dX6_weightAt_82 (by decide) ?_
                refine xlmulN C dX6_weightAt_90 ?_
                refine xlstore (lv' := [(4, .long (lN ((pwN K p x * pr (fun i => lwN K x (f (knb K p i))) i) * (ku K)))), (7, .int (nI (f (knb K p i)))), (0, .ref (b 0)), (1, .ref (b j)), (2, .int (nI p)), (3, .int (nI x)), (6, .int (nI i))]) C dX6_weightAt_91 (by decide) rfl ?_
                refine xgoto C 146 dX6_weightAt_93 (by decide) ?_
                refine xlocals (lv' := [(4, .long (lN (pwN K p x * pr (fun i => lwN K x (f (knb K p i))) (i + 1)))), (7, .int (nI (f (knb K p i)))), (0, .ref (b 0)), (1, .ref (b j)), (2, .int (nI p)), (3, .int (nI x)), (6, .int (nI i))]) (by rw [wstep (g := (fun i => lwN K x (f (knb K p i)))) (lwe_0 h66 h74)]) ?_
                refine xiincN (lv' := [(6, .int (nI (i + 1))), (4, .long (lN (pwN K p x * pr (fun i => lwN K x (f (knb K p i))) (i + 1)))), (7, .int (nI (f (knb K p i)))), (0, .ref (b 0)), (1, .ref (b j)), (2, .int (nI p)), (3, .int (nI x))]) C 6 rfl dX6_weightAt_146 (by decide) rfl ?_
                refine xgoto C 35 dX6_weightAt_149 (by decide) ?_
                refine xsub [3, 4, 5, 6, 1, 0] rfl ?_
                exact ih35 (i + 1) (by omega) (by omega)
      refine xsub [2, 3, 4, 5, 1, 0] rfl ?_
      exact LP35 _ 0 (Nat.zero_le _) (Nat.lt_succ_self _)
    ·
      refine xaload_n C 0 rfl dX6_weightAt_13 ?_
      refine gX6_31K C hK dX6_weightAt_14 ?_
      refine xi2lN C (by omega) dX6_weightAt_17 ?_
      refine xgoto C 30 dX6_weightAt_18 (by decide) ?_
      refine xtopl (y := lN (pwN K p x)) (by rw [pw_free hx hh, if_pos (by omega), if_pos (by omega)]) ?_
      refine xlstore (lv' := [(4, .long (lN (pwN K p x))), (0, .ref (b 0)), (1, .ref (b j)), (2, .int (nI p)), (3, .int (nI x))]) C dX6_weightAt_30 (by decide) rfl ?_
      refine xlocals (lv' := [(4, .long (lN (pwN K p x * pr (fun i => lwN K x (f (knb K p i))) 0))), (0, .ref (b 0)), (1, .ref (b j)), (2, .int (nI p)), (3, .int (nI x))]) (by rw [show pr (fun i => lwN K x (f (knb K p i))) 0 = 1 from rfl, Nat.mul_one]) ?_
      refine xiconst (v := nI 0) C dX6_weightAt_32 (by decide) ?_
      refine xistore (lv' := [(6, .int (nI 0)), (4, .long (lN (pwN K p x * pr (fun i => lwN K x (f (knb K p i))) 0))), (0, .ref (b 0)), (1, .ref (b j)), (2, .int (nI p)), (3, .int (nI x))]) C dX6_weightAt_33 (by decide) rfl ?_
      have LP35 : ∀ (fu35 : Nat) (i : Nat) (hi : i ≤ kdg K p), kdg K p - i < fu35 → XW X 0 0 (WM b t I F) [(0, .ref (b 0)), (1, .ref (b j)), (2, .int (nI p)), (3, .int (nI x)), (4, .long (lN (pwN K p x * pr (fun i => lwN K x (f (knb K p i))) i))), (6, .int (nI i))] 35 [] := by
        intro fu35
        induction fu35 with
        | zero => intro i hi hm35; exact absurd hm35 (Nat.not_lt_zero _)
        | succ fu35 ih35 =>
          intro i hi hm35
          refine xiload C 5 rfl dX6_weightAt_35 ?_
          refine xaload_n C 0 rfl dX6_weightAt_37 ?_
          refine gX6_19 C dX6_weightAt_38 ?_
          refine xiload_n C 2 rfl dX6_weightAt_41 ?_
          refine ma_dg C hK hW p (by omega) dX6_weightAt_42 ?_
          have fb42 := hW.dg6 p
          refine xicmp_geN C 152 dX6_weightAt_43 (by decide) (by omega) (by omega) (fun h43 => ?_) (fun h43 => ?_)
          ·
            refine xlload C 4 rfl dX6_weightAt_152 ?_
            exact xlret C hR dX6_weightAt_154 (RPl (by (have e : i = kdg K p := (by omega)); subst e; rfl))
          ·
            refine xaload_n C 1 rfl dX6_weightAt_46 ?_
            refine xaload_n C 0 rfl dX6_weightAt_47 ?_
            refine gX6_22 C dX6_weightAt_48 ?_
            refine xbipush (v := nI 6) C dX6_weightAt_51 (by decide) ?_
            refine xiload_n C 2 rfl dX6_weightAt_53 ?_
            refine ximulN C dX6_weightAt_54 ?_
            refine xiload C 5 rfl dX6_weightAt_55 ?_
            refine xiaddN C dX6_weightAt_57 ?_
            refine ma_nb C hK hW p i (by omega) (by omega) dX6_weightAt_58 ?_
            have fb58 := hW.nb (show p < kn K by omega) (show i < kdg K p by omega)
            refine ma_st C hW j h8 hj hS (knb K p i) (by omega) dX6_weightAt_59 ?_
            have fb59 := (hS (knb K p i) (by omega)).2
            refine xistore (lv' := [(7, .int (nI (f (knb K p i)))), (0, .ref (b 0)), (1, .ref (b j)), (2, .int (nI p)), (3, .int (nI x)), (4, .long (lN (pwN K p x * pr (fun i => lwN K x (f (knb K p i))) i))), (6, .int (nI i))]) C dX6_weightAt_60 (by decide) rfl ?_
            refine xaload_n C 1 rfl dX6_weightAt_62 ?_
            refine gX6_90K C hK dX6_weightAt_63 ?_
            refine xif_neN C 96 dX6_weightAt_66 (by decide) (by omega) (fun h66 => ?_) (fun h66 => ?_)
            ·
              refine xaload_n C 1 rfl dX6_weightAt_96 ?_
              refine gX6_90K C hK dX6_weightAt_97 ?_
              refine xiconst (v := nI 1) C dX6_weightAt_100 (by decide) ?_
              refine xicmp_neN C 127 dX6_weightAt_101 (by decide) (by omega) (by omega) (fun h101 => ?_) (fun h101 => ?_)
              ·
                refine xiload_n C 4 rfl dX6_weightAt_127 ?_
                refine xiconst (v := nI 1) C dX6_weightAt_128 (by decide) ?_
                refine xicmp_neN C 142 dX6_weightAt_129 (by decide) (by omega) (by omega) (fun h129 => ?_) (fun h129 => ?_)
                ·
                  refine xlload C 5 rfl dX6_weightAt_142 ?_
                  refine xlstore (lv' := [(4, .long (lN (pwN K p x * pr (fun i => lwN K x (f (knb K p i))) i))), (7, .int (nI (f (knb K p i)))), (0, .ref (b 0)), (1, .ref (b j)), (2, .int (nI p)), (3, .int (nI x)), (6, .int (nI i))]) C dX6_weightAt_144 (by decide) rfl ?_
                  refine xlocals (lv' := [(4, .long (lN (pwN K p x * pr (fun i => lwN K x (f (knb K p i))) (i + 1)))), (7, .int (nI (f (knb K p i)))), (0, .ref (b 0)), (1, .ref (b j)), (2, .int (nI p)), (3, .int (nI x)), (6, .int (nI i))]) (by rw [wone (g := (fun i => lwN K x (f (knb K p i)))) ((lw_2v (by omega)).trans (if_neg (by omega)))]) ?_
                  refine xiincN (lv' := [(6, .int (nI (i + 1))), (4, .long (lN (pwN K p x * pr (fun i => lwN K x (f (knb K p i))) (i + 1)))), (7, .int (nI (f (knb K p i)))), (0, .ref (b 0)), (1, .ref (b j)), (2, .int (nI p)), (3, .int (nI x))]) C 6 rfl dX6_weightAt_146 (by decide) rfl ?_
                  refine xgoto C 35 dX6_weightAt_149 (by decide) ?_
                  refine xsub [3, 4, 5, 6, 1, 0] rfl ?_
                  exact ih35 (i + 1) (by omega) (by omega)
                ·
                  refine xiload C 0 rfl dX6_weightAt_132 ?_
                  refine xiconst (v := nI 1) C dX6_weightAt_134 (by decide) ?_
                  refine xicmp_neN C 142 dX6_weightAt_135 (by decide) (by omega) (by omega) (fun h135 => ?_) (fun h135 => ?_)
                  ·
                    refine xlload C 5 rfl dX6_weightAt_142 ?_
                    refine xlstore (lv' := [(4, .long (lN (pwN K p x * pr (fun i => lwN K x (f (knb K p i))) i))), (7, .int (nI (f (knb K p i)))), (0, .ref (b 0)), (1, .ref (b j)), (2, .int (nI p)), (3, .int (nI x)), (6, .int (nI i))]) C dX6_weightAt_144 (by decide) rfl ?_
                    refine xlocals (lv' := [(4, .long (lN (pwN K p x * pr (fun i => lwN K x (f (knb K p i))) (i + 1)))), (7, .int (nI (f (knb K p i)))), (0, .ref (b 0)), (1, .ref (b j)), (2, .int (nI p)), (3, .int (nI x)), (6, .int (nI i))]) (by rw [wone (g := (fun i => lwN K x (f (knb K p i)))) ((lw_2v (by omega)).trans (if_neg (by omega)))]) ?_
                    refine xiincN (lv' := [(6, .int (nI (i + 1))), (4, .long (lN (pwN K p x * pr (fun i => lwN K x (f (knb K p i))) (i + 1)))), (7, .int (nI (f (knb K p i)))), (0, .ref (b 0)), (1, .ref (b j)), (2, .int (nI p)), (3, .int (nI x))]) C 6 rfl dX6_weightAt_146 (by decide) rfl ?_
                    refine xgoto C 35 dX6_weightAt_149 (by decide) ?_
                    refine xsub [3, 4, 5, 6, 1, 0] rfl ?_
                    exact ih35 (i + 1) (by omega) (by omega)
                  ·
                    refine xlconst (v := lN 0) C dX6_weightAt_138 (by decide) ?_
                    refine xgoto C 144 dX6_weightAt_139 (by decide) ?_
                    refine xlstore (lv' := [(4, .long (lN 0)), (7, .int (nI (f (knb K p i)))), (0, .ref (b 0)), (1, .ref (b j)), (2, .int (nI p)), (3, .int (nI x)), (6, .int (nI i))]) C dX6_weightAt_144 (by decide) rfl ?_
                    refine xlocals (lv' := [(4, .long (lN (pwN K p x * pr (fun i => lwN K x (f (knb K p i))) (i + 1)))), (7, .int (nI (f (knb K p i)))), (0, .ref (b 0)), (1, .ref (b j)), (2, .int (nI p)), (3, .int (nI x)), (6, .int (nI i))]) (by rw [wzero (g := (fun i => lwN K x (f (knb K p i)))) ((lw_2v (by omega)).trans (if_pos ⟨by omega, by omega⟩))]) ?_
                    refine xiincN (lv' := [(6, .int (nI (i + 1))), (4, .long (lN (pwN K p x * pr (fun i => lwN K x (f (knb K p i))) (i + 1)))), (7, .int (nI (f (knb K p i)))), (0, .ref (b 0)), (1, .ref (b j)), (2, .int (nI p)), (3, .int (nI x))]) C 6 rfl dX6_weightAt_146 (by decide) rfl ?_
                    refine xgoto C 35 dX6_weightAt_149 (by decide) ?_
                    refine xsub [3, 4, 5, 6, 1, 0] rfl ?_
                    exact ih35 (i + 1) (by omega) (by omega)
              ·
                refine xiload_n C 4 rfl dX6_weightAt_104 ?_
                refine xiload C 0 rfl dX6_weightAt_105 ?_
                refine xisub C dX6_weightAt_107 ?_
                refine xiconst (v := -1) C dX6_weightAt_108 (by decide) ?_
                refine xiconst (v := 1) C dX6_weightAt_109 (by decide) ?_
                refine xcSR C (c_X6_in ((nI x) - (nI (f (knb K p i)))) (-1) 1) sk_X6_in xml_X6_56 ⟨⟨Nat.le_of_ble_eq_true rfl, Nat.le_of_ble_eq_true rfl⟩, ⟨rfl, rfl⟩, ⟨Nat.zero_le _, Nat.zero_le _⟩⟩ rfl (Nat.le_of_ble_eq_true rfl) dX6_weightAt_110 ?_
                refine xif_eqN C 121 dX6_weightAt_113 (by decide) (bn_lt _) (fun h113 => ?_) (fun h113 => ?_)
                ·
                  refine xlconst (v := lN 0) C dX6_weightAt_121 (by decide) ?_
                  refine xlstore (lv' := [(4, .long (lN 0)), (7, .int (nI (f (knb K p i)))), (0, .ref (b 0)), (1, .ref (b j)), (2, .int (nI p)), (3, .int (nI x)), (6, .int (nI i))]) C dX6_weightAt_122 (by decide) rfl ?_
                  refine xgoto C 146 dX6_weightAt_124 (by decide) ?_
                  refine xlocals (lv' := [(4, .long (lN (pwN K p x * pr (fun i => lwN K x (f (knb K p i))) (i + 1)))), (7, .int (nI (f (knb K p i)))), (0, .ref (b 0)), (1, .ref (b j)), (2, .int (nI p)), (3, .int (nI x)), (6, .int (nI i))]) (by rw [wzero (g := (fun i => lwN K x (f (knb K p i)))) ((lw_1v h101).trans (if_neg (fun z => bn_0 h113 (inm1r (by omega) (by omega) z))))]) ?_
                  refine xiincN (lv' := [(6, .int (nI (i + 1))), (4, .long (lN (pwN K p x * pr (fun i => lwN K x (f (knb K p i))) (i + 1)))), (7, .int (nI (f (knb K p i)))), (0, .ref (b 0)), (1, .ref (b j)), (2, .int (nI p)), (3, .int (nI x))]) C 6 rfl dX6_weightAt_146 (by decide) rfl ?_
                  refine xgoto C 35 dX6_weightAt_149 (by decide) ?_
                  refine xsub [3, 4, 5, 6, 1, 0] rfl ?_
                  exact ih35 (i + 1) (by omega) (by omega)
                ·
                  refine xlload C 5 rfl dX6_weightAt_116 ?_
                  refine xgoto C 122 dX6_weightAt_118 (by decide) ?_
                  refine xlstore (lv' := [(4, .long (lN (pwN K p x * pr (fun i => lwN K x (f (knb K p i))) i))), (7, .int (nI (f (knb K p i)))), (0, .ref (b 0)), (1, .ref (b j)), (2, .int (nI p)), (3, .int (nI x)), (6, .int (nI i))]) C dX6_weightAt_122 (by decide) rfl ?_
                  refine xgoto C 146 dX6_weightAt_124 (by decide) ?_
                  refine xlocals (lv' := [(4, .long (lN (pwN K p x * pr (fun i => lwN K x (f (knb K p i))) (i + 1)))), (7, .int (nI (f (knb K p i)))), (0, .ref (b 0)), (1, .ref (b j)), (2, .int (nI p)), (3, .int (nI x)), (6, .int (nI i))]) (by rw [wone (g := (fun i => lwN K x (f (knb K p i)))) ((lw_1v h101).trans (if_pos (inm1 (by omega) (by omega) (bn_1 h113))))]) ?_
                  refine xiincN (lv' := [(6, .int (nI (i + 1))), (4, .long (lN (pwN K p x * pr (fun i => lwN K x (f (knb K p i))) (i + 1)))), (7, .int (nI (f (knb K p i)))), (0, .ref (b 0)), (1, .ref (b j)), (2, .int (nI p)), (3, .int (nI x))]) C 6 rfl dX6_weightAt_146 (by decide) rfl ?_
                  refine xgoto C 35 dX6_weightAt_149 (by decide) ?_
                  refine xsub [3, 4, 5, 6, 1, 0] rfl ?_
                  exact ih35 (i + 1) (by omega) (by omega)
            ·
              refine xlload C 5 rfl dX6_weightAt_69 ?_
              refine xiload_n C 4 rfl dX6_weightAt_71 ?_
              refine xiload C 0 rfl dX6_weightAt_72 ?_
              refine xicmp_neN C 85 dX6_weightAt_74 (by decide) (by omega) (by omega) (fun h74 => ?_) (fun h74 => ?_)
              ·
                refine xaload_n C 1 rfl dX6_weightAt_85 ?_
                refine gX6_35K C hK dX6_weightAt_86 ?_
                refine xi2lN C (by omega) dX6_weightAt_89 ?_
                refine xlmulN C dX6_weightAt_90 ?_
                refine xlstore (lv' := [(4, .long (lN ((pwN K p x * pr (fun i => lwN K x (f (knb K p i))) i) * (kv K)))), (7, .int (nI (f (knb K p i)))), (0, .ref (b 0)), (1, .ref (b j)), (2, .int (nI p)), (3, .int (nI x)), (6, .int (nI i))]) C dX6_weightAt_91 (by decide) rfl ?_
                refine xgoto C 146 dX6_weightAt_93 (by decide) ?_
                refine xlocals (lv' := [(4, .long (lN (pwN K p x * pr (fun i => lwN K x (f (knb K p i))) (i + 1)))), (7, .int (nI (f (knb K p i)))), (0, .ref (b 0)), (1, .ref (b j)), (2, .int (nI p)), (3, .int (nI x)), (6, .int (nI i))]) (by rw [wstep (g := (fun i => lwN K x (f (knb K p i)))) (lwn_0 h66 h74)]) ?_
                refine xiincN (lv' := [(6, .int (nI (i + 1))), (4, .long (lN (pwN K p x * pr (fun i => lwN K x (f (knb K p i))) (i + 1)))), (7, .int (nI (f (knb K p i)))), (0, .ref (b 0)), (1, .ref (b j)), (2, .int (nI p)), (3, .int (nI x))]) C 6 rfl dX6_weightAt_146 (by decide) rfl ?_
                refine xgoto C 35 dX6_weightAt_149 (by decide) ?_
                refine xsub [3, 4, 5, 6, 1, 0] rfl ?_
                exact ih35 (i + 1) (by omega) (by omega)
              ·
                refine xaload_n C 1 rfl dX6_weightAt_77 ?_
                refine gX6_31K C hK dX6_weightAt_78 ?_
                refine xi2lN C (by omega) dX6_weightAt_81 ?_
                refine xgoto C 90 dX6_weightAt_82 (by decide) ?_
                refine xlmulN C dX6_weightAt_90 ?_
                refine xlstore (lv' := [(4, .long (lN ((pwN K p x * pr (fun i => lwN K x (f (knb K p i))) i) * (ku K)))), (7, .int (nI (f (knb K p i)))), (0, .ref (b 0)), (1, .ref (b j)), (2, .int (nI p)), (3, .int (nI x)), (6, .int (nI i))]) C dX6_weightAt_91 (by decide) rfl ?_
                refine xgoto C 146 dX6_weightAt_93 (by decide) ?_
                refine xlocals (lv' := [(4, .long (lN (pwN K p x * pr (fun i => lwN K x (f (knb K p i))) (i + 1)))), (7, .int (nI (f (knb K p i)))), (0, .ref (b 0)), (1, .ref (b j)), (2, .int (nI p)), (3, .int (nI x)), (6, .int (nI i))]) (by rw [wstep (g := (fun i => lwN K x (f (knb K p i)))) (lwe_0 h66 h74)]) ?_
                refine xiincN (lv' := [(6, .int (nI (i + 1))), (4, .long (lN (pwN K p x * pr (fun i => lwN K x (f (knb K p i))) (i + 1)))), (7, .int (nI (f (knb K p i)))), (0, .ref (b 0)), (1, .ref (b j)), (2, .int (nI p)), (3, .int (nI x))]) C 6 rfl dX6_weightAt_146 (by decide) rfl ?_
                refine xgoto C 35 dX6_weightAt_149 (by decide) ?_
                refine xsub [3, 4, 5, 6, 1, 0] rfl ?_
                exact ih35 (i + 1) (by omega) (by omega)
      refine xsub [2, 3, 4, 5, 1, 0] rfl ?_
      exact LP35 _ 0 (Nat.zero_le _) (Nat.lt_succ_self _)
theorem dX6_tick1_0 : decode cX6_tick1 0 = .ok (.aload_n 0, 1) := by decide +kernel
theorem dX6_tick1_1 : decode cX6_tick1 1 = .ok (.iload_n 2, 1) := by decide +kernel
theorem dX6_tick1_2 : decode cX6_tick1 2 = .ok (.invokevirtual 111, 3) := by decide +kernel
theorem dX6_tick1_5 : decode cX6_tick1 5 = .ok (.istore_n 3, 1) := by decide +kernel
theorem dX6_tick1_6 : decode cX6_tick1 6 = .ok (.iload_n 3, 1) := by decide +kernel
theorem dX6_tick1_7 : decode cX6_tick1 7 = .ok (.bipush 16, 2) := by decide +kernel
theorem dX6_tick1_9 : decode cX6_tick1 9 = .ok (.iushr, 1) := by decide +kernel
theorem dX6_tick1_10 : decode cX6_tick1 10 = .ok (.aload_n 0, 1) := by decide +kernel
theorem dX6_tick1_11 : decode cX6_tick1 11 = .ok (.getfield 53, 3) := by decide +kernel
theorem dX6_tick1_14 : decode cX6_tick1 14 = .ok (.irem, 1) := by decide +kernel
theorem dX6_tick1_15 : decode cX6_tick1 15 = .ok (.istore 4, 2) := by decide +kernel
theorem dX6_tick1_17 : decode cX6_tick1 17 = .ok (.iload_n 3, 1) := by decide +kernel
theorem dX6_tick1_18 : decode cX6_tick1 18 = .ok (.ldc 115, 2) := by decide +kernel
theorem dX6_tick1_20 : decode cX6_tick1 20 = .ok (.iand, 1) := by decide +kernel
theorem dX6_tick1_21 : decode cX6_tick1 21 = .ok (.istore 5, 2) := by decide +kernel
theorem dX6_tick1_23 : decode cX6_tick1 23 = .ok (.aload_n 0, 1) := by decide +kernel
theorem dX6_tick1_24 : decode cX6_tick1 24 = .ok (.getfield 90, 3) := by decide +kernel
theorem dX6_tick1_27 : decode cX6_tick1 27 = .ok (.iconst 1, 1) := by decide +kernel
theorem dX6_tick1_28 : decode cX6_tick1 28 = .ok (.if_icmp .ne 15, 3) := by decide +kernel
theorem dX6_tick1_31 : decode cX6_tick1 31 = .ok (.aload_n 0, 1) := by decide +kernel
theorem dX6_tick1_32 : decode cX6_tick1 32 = .ok (.getfield 16, 3) := by decide +kernel
theorem dX6_tick1_35 : decode cX6_tick1 35 = .ok (.iload 4, 2) := by decide +kernel
theorem dX6_tick1_37 : decode cX6_tick1 37 = .ok (.iaload, 1) := by decide +kernel
theorem dX6_tick1_38 : decode cX6_tick1 38 = .ok (.ifCond .lt 5, 3) := by decide +kernel
theorem dX6_tick1_41 : decode cX6_tick1 41 = .ok (.iconst 0, 1) := by decide +kernel
theorem dX6_tick1_42 : decode cX6_tick1 42 = .ok (.ireturn, 1) := by decide +kernel
theorem dX6_tick1_43 : decode cX6_tick1 43 = .ok (.aload_n 0, 1) := by decide +kernel
theorem dX6_tick1_44 : decode cX6_tick1 44 = .ok (.getfield 90, 3) := by decide +kernel
theorem dX6_tick1_47 : decode cX6_tick1 47 = .ok (.iconst 1, 1) := by decide +kernel
theorem dX6_tick1_48 : decode cX6_tick1 48 = .ok (.if_icmp .ne 13, 3) := by decide +kernel
theorem dX6_tick1_51 : decode cX6_tick1 51 = .ok (.aload_n 0, 1) := by decide +kernel
theorem dX6_tick1_52 : decode cX6_tick1 52 = .ok (.getfield 7, 3) := by decide +kernel
theorem dX6_tick1_55 : decode cX6_tick1 55 = .ok (.iload 4, 2) := by decide +kernel
theorem dX6_tick1_57 : decode cX6_tick1 57 = .ok (.iaload, 1) := by decide +kernel
theorem dX6_tick1_58 : decode cX6_tick1 58 = .ok (.goto 4, 3) := by decide +kernel
theorem dX6_tick1_61 : decode cX6_tick1 61 = .ok (.iconst 1, 1) := by decide +kernel
theorem dX6_tick1_62 : decode cX6_tick1 62 = .ok (.istore 6, 2) := by decide +kernel
theorem dX6_tick1_64 : decode cX6_tick1 64 = .ok (.lconst 0, 1) := by decide +kernel
theorem dX6_tick1_65 : decode cX6_tick1 65 = .ok (.lstore 7, 2) := by decide +kernel
theorem dX6_tick1_67 : decode cX6_tick1 67 = .ok (.iconst 0, 1) := by decide +kernel
theorem dX6_tick1_68 : decode cX6_tick1 68 = .ok (.istore 9, 2) := by decide +kernel
theorem dX6_tick1_70 : decode cX6_tick1 70 = .ok (.iload 9, 2) := by decide +kernel
theorem dX6_tick1_72 : decode cX6_tick1 72 = .ok (.iload 6, 2) := by decide +kernel
theorem dX6_tick1_74 : decode cX6_tick1 74 = .ok (.if_icmp .gt 23, 3) := by decide +kernel
theorem dX6_tick1_77 : decode cX6_tick1 77 = .ok (.lload 7, 2) := by decide +kernel
theorem dX6_tick1_79 : decode cX6_tick1 79 = .ok (.aload_n 0, 1) := by decide +kernel
theorem dX6_tick1_80 : decode cX6_tick1 80 = .ok (.aload_n 1, 1) := by decide +kernel
theorem dX6_tick1_81 : decode cX6_tick1 81 = .ok (.iload 4, 2) := by decide +kernel
theorem dX6_tick1_83 : decode cX6_tick1 83 = .ok (.iload 9, 2) := by decide +kernel
theorem dX6_tick1_85 : decode cX6_tick1 85 = .ok (.invokevirtual 116, 3) := by decide +kernel
theorem dX6_tick1_88 : decode cX6_tick1 88 = .ok (.ladd, 1) := by decide +kernel
theorem dX6_tick1_89 : decode cX6_tick1 89 = .ok (.lstore 7, 2) := by decide +kernel
theorem dX6_tick1_91 : decode cX6_tick1 91 = .ok (.iinc 9 1, 3) := by decide +kernel
theorem dX6_tick1_94 : decode cX6_tick1 94 = .ok (.goto (-24), 3) := by decide +kernel
theorem dX6_tick1_97 : decode cX6_tick1 97 = .ok (.aload_n 0, 1) := by decide +kernel
theorem dX6_tick1_98 : decode cX6_tick1 98 = .ok (.getfield 90, 3) := by decide +kernel
theorem dX6_tick1_101 : decode cX6_tick1 101 = .ok (.iconst 2, 1) := by decide +kernel
theorem dX6_tick1_102 : decode cX6_tick1 102 = .ok (.if_icmp .ne 18, 3) := by decide +kernel
theorem dX6_tick1_105 : decode cX6_tick1 105 = .ok (.aload_n 0, 1) := by decide +kernel
theorem dX6_tick1_106 : decode cX6_tick1 106 = .ok (.getfield 13, 3) := by decide +kernel
theorem dX6_tick1_109 : decode cX6_tick1 109 = .ok (.iload 4, 2) := by decide +kernel
theorem dX6_tick1_111 : decode cX6_tick1 111 = .ok (.iaload, 1) := by decide +kernel
theorem dX6_tick1_112 : decode cX6_tick1 112 = .ok (.iconst 1, 1) := by decide +kernel
theorem dX6_tick1_113 : decode cX6_tick1 113 = .ok (.if_icmp .ne 7, 3) := by decide +kernel
theorem dX6_tick1_116 : decode cX6_tick1 116 = .ok (.iconst 1, 1) := by decide +kernel
theorem dX6_tick1_117 : decode cX6_tick1 117 = .ok (.goto 4, 3) := by decide +kernel
theorem dX6_tick1_120 : decode cX6_tick1 120 = .ok (.iconst 0, 1) := by decide +kernel
theorem dX6_tick1_121 : decode cX6_tick1 121 = .ok (.istore 9, 2) := by decide +kernel
theorem dX6_tick1_123 : decode cX6_tick1 123 = .ok (.lconst 0, 1) := by decide +kernel
theorem dX6_tick1_124 : decode cX6_tick1 124 = .ok (.lstore 10, 2) := by decide +kernel
theorem dX6_tick1_126 : decode cX6_tick1 126 = .ok (.iconst 0, 1) := by decide +kernel
theorem dX6_tick1_127 : decode cX6_tick1 127 = .ok (.istore 12, 2) := by decide +kernel
theorem dX6_tick1_129 : decode cX6_tick1 129 = .ok (.iload 12, 2) := by decide +kernel
theorem dX6_tick1_131 : decode cX6_tick1 131 = .ok (.iload 6, 2) := by decide +kernel
theorem dX6_tick1_133 : decode cX6_tick1 133 = .ok (.if_icmp .gt 91, 3) := by decide +kernel
theorem dX6_tick1_136 : decode cX6_tick1 136 = .ok (.iload 9, 2) := by decide +kernel
theorem dX6_tick1_138 : decode cX6_tick1 138 = .ok (.ifCond .eq 10, 3) := by decide +kernel
theorem dX6_tick1_141 : decode cX6_tick1 141 = .ok (.iconst 1, 1) := by decide +kernel
theorem dX6_tick1_142 : decode cX6_tick1 142 = .ok (.iload 12, 2) := by decide +kernel
theorem dX6_tick1_144 : decode cX6_tick1 144 = .ok (.isub, 1) := by decide +kernel
theorem dX6_tick1_145 : decode cX6_tick1 145 = .ok (.goto 5, 3) := by decide +kernel
theorem dX6_tick1_148 : decode cX6_tick1 148 = .ok (.iload 12, 2) := by decide +kernel
theorem dX6_tick1_150 : decode cX6_tick1 150 = .ok (.istore 13, 2) := by decide +kernel
theorem dX6_tick1_152 : decode cX6_tick1 152 = .ok (.aload_n 0, 1) := by decide +kernel
theorem dX6_tick1_153 : decode cX6_tick1 153 = .ok (.aload_n 1, 1) := by decide +kernel
theorem dX6_tick1_154 : decode cX6_tick1 154 = .ok (.iload 4, 2) := by decide +kernel
theorem dX6_tick1_156 : decode cX6_tick1 156 = .ok (.iload 13, 2) := by decide +kernel
theorem dX6_tick1_158 : decode cX6_tick1 158 = .ok (.invokevirtual 116, 3) := by decide +kernel
theorem dX6_tick1_161 : decode cX6_tick1 161 = .ok (.lstore 14, 2) := by decide +kernel
theorem dX6_tick1_163 : decode cX6_tick1 163 = .ok (.lload 10, 2) := by decide +kernel
theorem dX6_tick1_165 : decode cX6_tick1 165 = .ok (.lload 14, 2) := by decide +kernel
theorem dX6_tick1_167 : decode cX6_tick1 167 = .ok (.ladd, 1) := by decide +kernel
theorem dX6_tick1_168 : decode cX6_tick1 168 = .ok (.lstore 10, 2) := by decide +kernel
theorem dX6_tick1_170 : decode cX6_tick1 170 = .ok (.lload 14, 2) := by decide +kernel
theorem dX6_tick1_172 : decode cX6_tick1 172 = .ok (.lconst 0, 1) := by decide +kernel
theorem dX6_tick1_173 : decode cX6_tick1 173 = .ok (.lcmp, 1) := by decide +kernel
theorem dX6_tick1_174 : decode cX6_tick1 174 = .ok (.ifCond .le 44, 3) := by decide +kernel
theorem dX6_tick1_177 : decode cX6_tick1 177 = .ok (.iload 5, 2) := by decide +kernel
theorem dX6_tick1_179 : decode cX6_tick1 179 = .ok (.i2l, 1) := by decide +kernel
theorem dX6_tick1_180 : decode cX6_tick1 180 = .ok (.lload 7, 2) := by decide +kernel
theorem dX6_tick1_182 : decode cX6_tick1 182 = .ok (.lmul, 1) := by decide +kernel
theorem dX6_tick1_183 : decode cX6_tick1 183 = .ok (.ldc2_w 120, 3) := by decide +kernel
theorem dX6_tick1_186 : decode cX6_tick1 186 = .ok (.lload 10, 2) := by decide +kernel
theorem dX6_tick1_188 : decode cX6_tick1 188 = .ok (.lmul, 1) := by decide +kernel
theorem dX6_tick1_189 : decode cX6_tick1 189 = .ok (.lcmp, 1) := by decide +kernel
theorem dX6_tick1_190 : decode cX6_tick1 190 = .ok (.ifCond .ge 28, 3) := by decide +kernel
theorem dX6_tick1_193 : decode cX6_tick1 193 = .ok (.aload_n 1, 1) := by decide +kernel
theorem dX6_tick1_194 : decode cX6_tick1 194 = .ok (.iload 4, 2) := by decide +kernel
theorem dX6_tick1_196 : decode cX6_tick1 196 = .ok (.iaload, 1) := by decide +kernel
theorem dX6_tick1_197 : decode cX6_tick1 197 = .ok (.iload 13, 2) := by decide +kernel
theorem dX6_tick1_199 : decode cX6_tick1 199 = .ok (.if_icmp .eq 7, 3) := by decide +kernel
theorem dX6_tick1_202 : decode cX6_tick1 202 = .ok (.iconst 1, 1) := by decide +kernel
theorem dX6_tick1_203 : decode cX6_tick1 203 = .ok (.goto 4, 3) := by decide +kernel
theorem dX6_tick1_206 : decode cX6_tick1 206 = .ok (.iconst 0, 1) := by decide +kernel
theorem dX6_tick1_207 : decode cX6_tick1 207 = .ok (.istore 16, 2) := by decide +kernel
theorem dX6_tick1_209 : decode cX6_tick1 209 = .ok (.aload_n 1, 1) := by decide +kernel
theorem dX6_tick1_210 : decode cX6_tick1 210 = .ok (.iload 4, 2) := by decide +kernel
theorem dX6_tick1_212 : decode cX6_tick1 212 = .ok (.iload 13, 2) := by decide +kernel
theorem dX6_tick1_214 : decode cX6_tick1 214 = .ok (.iastore, 1) := by decide +kernel
theorem dX6_tick1_215 : decode cX6_tick1 215 = .ok (.iload 16, 2) := by decide +kernel
theorem dX6_tick1_217 : decode cX6_tick1 217 = .ok (.ireturn, 1) := by decide +kernel
theorem dX6_tick1_218 : decode cX6_tick1 218 = .ok (.iinc 12 1, 3) := by decide +kernel
theorem dX6_tick1_221 : decode cX6_tick1 221 = .ok (.goto (-92), 3) := by decide +kernel
theorem dX6_tick1_224 : decode cX6_tick1 224 = .ok (.iconst 0, 1) := by decide +kernel
theorem dX6_tick1_225 : decode cX6_tick1 225 = .ok (.ireturn, 1) := by decide +kernel
def rX6_tick1 : Room := { frames := 2, cells := 0, slots := 0, locals := 49 }
theorem yk_X6_tick1 : YK yX6_tick1 cX6_tick1 17 (some .boolean) 2 := ⟨xim_X6_tick1, xse_X6_tick1, xin_X6, xco_X6_tick1, by decide +kernel⟩
set_option maxRecDepth 4000 in
theorem c_X6_tick1 {l : Launch} {D : va_G} {t : Nat → ClassId} {b : Nat → Nat} {I : Nat → Int32} {F : Nat → Nat → Int32} {K : Cfg} (hK : CFG K I F) (hW : WFK K) (j : Nat) (h8 : 8 ≤ j) (hj : j < 13) {f : Nat → Nat} (hS : RA (kn K) (F j) f) (hn : 0 < kn K) (sd tt : Int32) (hsd : I 10 = sd) (hHE : HE K f) : CT l D t yX6_tick1 cX6_tick1 17 (some .boolean) rX6_tick1 0 0 [.ref (b 0), .ref (b j), .int tt] (WM b t I F) (EP (fun v w => v = .int (nI (bn (chgP K sd f tt))) ∧ ∃ F' : Nat → Nat → Int32, w = WM b t I F' ∧ (∀ q, q ≠ j → F' q = F q) ∧ RA (kn K) (F' j) (tkN K sd f tt))) := by
  refine CT.of (by decide +kernel) (by simp [lg_sl, Value.category]) (fun X C hR => ?_)
  refine xlocals (lv' := [(0, .ref (b 0)), (1, .ref (b j)), (2, .int tt)]) rfl ?_
  have fn24 := hW.n24; have fm60 := hW.m60; have fk2 := hW.k2; have fu1 := hW.u1; have fu9 := hW.u9; have fv1 := hW.v1; have fv9 := hW.v9
  refine xaload_n C 0 rfl dX6_tick1_0 ?_
  refine xiload_n C 2 rfl dX6_tick1_1 ?_
  refine xcVR C (c_X6_mixed sd tt hsd) yk_X6_mixed 0 rfl rfl xml_X6_111 ⟨⟨Nat.le_of_ble_eq_true rfl, Nat.le_of_ble_eq_true rfl⟩, ⟨rfl, rfl⟩, ⟨Nat.zero_le _, Nat.zero_le _⟩⟩ rfl (Nat.le_of_ble_eq_true rfl) dX6_tick1_2 ?_
  refine xistore_n (lv' := [(3, .int (mixI sd tt)), (0, .ref (b 0)), (1, .ref (b j)), (2, .int tt)]) C dX6_tick1_5 (by decide) rfl ?_
  refine xiload_n C 0 rfl dX6_tick1_6 ?_
  refine xbipush (v := 16) C dX6_tick1_7 (by decide) ?_
  refine xiushr C dX6_tick1_9 ?_
  refine xtopi (y := nI ((mixI sd tt).toBitVec.toNat / 65536)) (ush16 (mixI sd tt)) ?_
  refine xaload_n C 1 rfl dX6_tick1_10 ?_
  refine gX6_53K C hK dX6_tick1_11 ?_
  refine xirem C dX6_tick1_14 (fun q => absurd ((nI_eq (by omega) (by omega)).mp (q.trans nI_0.symm)) (by omega)) ?_
  obtain ⟨p, epl, hp⟩ : ∃ z, z = plN K (mixI sd tt) ∧ z < kn K := ⟨_, rfl, Nat.mod_lt _ hn⟩
  refine xtopi (y := nI p) (by rw [epl]; exact pk_rem (ush16_lt _) (by omega) (by omega)) ?_
  have ech : chN K f (plN K (mixI sd tt)) (lotN (mixI sd tt)) = chN K f p (lotN (mixI sd tt)) := by rw [← epl]
  have hl16 := lotN_lt (mixI sd tt)
  have hm5 := mostN_le hW hp
  refine xistore (lv' := [(4, .int (nI p)), (3, .int (mixI sd tt)), (0, .ref (b 0)), (1, .ref (b j)), (2, .int tt)]) C dX6_tick1_15 (by decide) rfl ?_
  refine xiload_n C 1 rfl dX6_tick1_17 ?_
  refine xldc C dX6_tick1_18 xcn_X6_115 ?_
  refine xiand C dX6_tick1_20 ?_
  refine xtopi (y := nI (lotN (mixI sd tt))) (pk_and _ 16 (by decide +kernel)) ?_
  refine xistore (lv' := [(5, .int (nI (lotN (mixI sd tt)))), (4, .int (nI p)), (3, .int (mixI sd tt)), (0, .ref (b 0)), (1, .ref (b j)), (2, .int tt)]) C dX6_tick1_21 (by decide) rfl ?_
  refine xaload_n C 3 rfl dX6_tick1_23 ?_
  refine gX6_90K C hK dX6_tick1_24 ?_
  refine xiconst (v := nI 1) C dX6_tick1_27 (by decide) ?_
  refine xicmp_neN C 43 dX6_tick1_28 (by decide) (by omega) (by omega) (fun h28 => ?_) (fun h28 => ?_)
  ·
    have hh : ¬ (kk K = 1 ∧ khd K p ≠ 0) := fun q => h28 q.1
    refine xaload_n C 3 rfl dX6_tick1_43 ?_
    refine gX6_90K C hK dX6_tick1_44 ?_
    refine xiconst (v := nI 1) C dX6_tick1_47 (by decide) ?_
    refine xicmp_neN C 61 dX6_tick1_48 (by decide) (by omega) (by omega) (fun h48 => ?_) (fun h48 => ?_)
    ·
      refine xiconst (v := nI 1) C dX6_tick1_61 (by decide) ?_
      refine xtopi (y := nI (mostN K p)) (by rw [most_n h48]) ?_
      refine xistore (lv' := [(6, .int (nI (mostN K p))), (5, .int (nI (lotN (mixI sd tt)))), (4, .int (nI p)), (3, .int (mixI sd tt)), (0, .ref (b 0)), (1, .ref (b j)), (2, .int tt)]) C dX6_tick1_62 (by decide) rfl ?_
      refine xlconst (v := lN 0) C dX6_tick1_64 (by decide) ?_
      refine xlstore (lv' := [(7, .long (lN 0)), (6, .int (nI (mostN K p))), (5, .int (nI (lotN (mixI sd tt)))), (4, .int (nI p)), (3, .int (mixI sd tt)), (0, .ref (b 0)), (1, .ref (b j)), (2, .int tt)]) C dX6_tick1_65 (by decide) rfl ?_
      refine xiconst (v := nI 0) C dX6_tick1_67 (by decide) ?_
      refine xistore (lv' := [(9, .int (nI 0)), (7, .long (lN 0)), (6, .int (nI (mostN K p))), (5, .int (nI (lotN (mixI sd tt)))), (4, .int (nI p)), (3, .int (mixI sd tt)), (0, .ref (b 0)), (1, .ref (b j)), (2, .int tt)]) C dX6_tick1_68 (by decide) rfl ?_
      have LP70 : ∀ (fu70 : Nat) (i : Nat) (hi : i ≤ mostN K p + 1), mostN K p + 1 - i < fu70 → XW X 0 0 (WM b t I F) [(0, .ref (b 0)), (1, .ref (b j)), (2, .int tt), (3, .int (mixI sd tt)), (4, .int (nI p)), (5, .int (nI (lotN (mixI sd tt)))), (6, .int (nI (mostN K p))), (7, .long (lN (sm (waN K f p) i))), (9, .int (nI i))] 70 [] := by
        intro fu70
        induction fu70 with
        | zero => intro i hi hm70; exact absurd hm70 (Nat.not_lt_zero _)
        | succ fu70 ih70 =>
          intro i hi hm70
          refine xiload C 8 rfl dX6_tick1_70 ?_
          refine xiload C 6 rfl dX6_tick1_72 ?_
          refine xicmp_gtN C 97 dX6_tick1_74 (by decide) (by omega) (by omega) (fun h74 => ?_) (fun h74 => ?_)
          ·
            refine xlocals (lv' := [(0, .ref (b 0)), (1, .ref (b j)), (2, .int tt), (3, .int (mixI sd tt)), (4, .int (nI p)), (5, .int (nI (lotN (mixI sd tt)))), (6, .int (nI (mostN K p))), (7, .long (lN (sm (whN K f p) (mostN K p + 1)))), (9, .int (nI i))]) (by rw [show i = mostN K p + 1 by omega, sum_noh hW hp]) ?_
            refine xaload_n C 0 rfl dX6_tick1_97 ?_
            refine gX6_90K C hK dX6_tick1_98 ?_
            refine xiconst (v := nI 2) C dX6_tick1_101 (by decide) ?_
            refine xicmp_neN C 120 dX6_tick1_102 (by decide) (by omega) (by omega) (fun h102 => ?_) (fun h102 => ?_)
            ·
              refine xiconst (v := nI 0) C dX6_tick1_120 (by decide) ?_
              refine xistore (lv' := [(9, .int (nI 0)), (0, .ref (b 0)), (1, .ref (b j)), (2, .int tt), (3, .int (mixI sd tt)), (4, .int (nI p)), (5, .int (nI (lotN (mixI sd tt)))), (6, .int (nI (mostN K p))), (7, .long (lN (sm (whN K f p) (mostN K p + 1))))]) C dX6_tick1_121 (by decide) rfl ?_
              refine xlconst (v := lN 0) C dX6_tick1_123 (by decide) ?_
              refine xlstore (lv' := [(10, .long (lN 0)), (9, .int (nI 0)), (0, .ref (b 0)), (1, .ref (b j)), (2, .int tt), (3, .int (mixI sd tt)), (4, .int (nI p)), (5, .int (nI (lotN (mixI sd tt)))), (6, .int (nI (mostN K p))), (7, .long (lN (sm (whN K f p) (mostN K p + 1))))]) C dX6_tick1_124 (by decide) rfl ?_
              refine xiconst (v := nI 0) C dX6_tick1_126 (by decide) ?_
              refine xistore (lv' := [(12, .int (nI 0)), (10, .long (lN 0)), (9, .int (nI 0)), (0, .ref (b 0)), (1, .ref (b j)), (2, .int tt), (3, .int (mixI sd tt)), (4, .int (nI p)), (5, .int (nI (lotN (mixI sd tt)))), (6, .int (nI (mostN K p))), (7, .long (lN (sm (whN K f p) (mostN K p + 1))))]) C dX6_tick1_127 (by decide) rfl ?_
              have LP129 : ∀ (fu129 : Nat) (i : Nat) (hi : i ≤ mostN K p + 1) (hno : ∀ x, x < i → ¬ lotN (mixI sd tt) * sm (whN K f p) (mostN K p + 1) < 65536 * sm (whN K f p) (x + 1)) (hz : ¬ lotN (mixI sd tt) * sm (whN K f p) (mostN K p + 1) < 65536 * sm (whN K f p) i), mostN K p + 1 - i < fu129 → XW X 0 0 (WM b t I F) [(0, .ref (b 0)), (1, .ref (b j)), (2, .int tt), (3, .int (mixI sd tt)), (4, .int (nI p)), (5, .int (nI (lotN (mixI sd tt)))), (6, .int (nI (mostN K p))), (7, .long (lN (sm (whN K f p) (mostN K p + 1)))), (9, .int (nI 0)), (10, .long (lN (sm (whN K f p) i))), (12, .int (nI i))] 129 [] := by
                intro fu129
                induction fu129 with
                | zero => intro i hi hno hz hm129; exact absurd hm129 (Nat.not_lt_zero _)
                | succ fu129 ih129 =>
                  intro i hi hno hz hm129
                  refine xiload C 10 rfl dX6_tick1_129 ?_
                  refine xiload C 6 rfl dX6_tick1_131 ?_
                  refine xicmp_gtN C 224 dX6_tick1_133 (by decide) (by omega) (by omega) (fun h133 => ?_) (fun h133 => ?_)
                  ·
                    refine xiconst (v := nI 0) C dX6_tick1_224 (by decide) ?_
                    exact xret C hR (by rfl) dX6_tick1_225 (⟨_, rfl, by rw [bn_f (P := chgP K sd f tt) (fun q => q (by rw [← epl]; exact ch_none hno (by omega)))], F, rfl, fun _ _ => rfl, tk_ra hS (ech.trans (ch_none hno (by omega))) epl⟩)
                  ·
                    refine xiload C 8 rfl dX6_tick1_136 ?_
                    refine xif_eqN C 148 dX6_tick1_138 (by decide) (by omega) (fun h138 => ?_) (fun h138 => ?_)
                    ·
                      refine xiload C 10 rfl dX6_tick1_148 ?_
                      refine xtopi (y := nI (nohN K p i)) (congrArg nI (noh_n (by omega))) ?_
                      refine xistore (lv' := [(13, .int (nI (nohN K p i))), (0, .ref (b 0)), (1, .ref (b j)), (2, .int tt), (3, .int (mixI sd tt)), (4, .int (nI p)), (5, .int (nI (lotN (mixI sd tt)))), (6, .int (nI (mostN K p))), (7, .long (lN (sm (whN K f p) (mostN K p + 1)))), (9, .int (nI 0)), (10, .long (lN (sm (whN K f p) i))), (12, .int (nI i))]) C dX6_tick1_150 (by decide) rfl ?_
                      refine xaload_n C 1 rfl dX6_tick1_152 ?_
                      refine xaload_n C 2 rfl dX6_tick1_153 ?_
                      refine xiload C 5 rfl dX6_tick1_154 ?_
                      refine xiload C 0 rfl dX6_tick1_156 ?_
                      refine xcVR C (c_X6_weightAt hK hW j h8 hj hS p hp (nohN K p i) (noh_m (show i ≤ mostN K p by omega)) (hh)) yk_X6_weightAt 0 rfl rfl xml_X6_116 ⟨⟨Nat.le_of_ble_eq_true rfl, Nat.le_of_ble_eq_true rfl⟩, ⟨rfl, rfl⟩, ⟨Nat.zero_le _, Nat.zero_le _⟩⟩ rfl (Nat.le_of_ble_eq_true rfl) dX6_tick1_158 ?_
                      refine xlstore (lv' := [(14, .long (lN (waN K f p (nohN K p i)))), (13, .int (nI (nohN K p i))), (0, .ref (b 0)), (1, .ref (b j)), (2, .int tt), (3, .int (mixI sd tt)), (4, .int (nI p)), (5, .int (nI (lotN (mixI sd tt)))), (6, .int (nI (mostN K p))), (7, .long (lN (sm (whN K f p) (mostN K p + 1)))), (9, .int (nI 0)), (10, .long (lN (sm (whN K f p) i))), (12, .int (nI i))]) C dX6_tick1_161 (by decide) rfl ?_
                      refine xlload C 11 rfl dX6_tick1_163 ?_
                      refine xlload C 0 rfl dX6_tick1_165 ?_
                      refine xladdN C dX6_tick1_167 ?_
                      refine xtopl (y := lN (sm (whN K f p) (i + 1))) (rfl) ?_
                      refine xlstore (lv' := [(10, .long (lN (sm (whN K f p) (i + 1)))), (14, .long (lN (waN K f p (nohN K p i)))), (13, .int (nI (nohN K p i))), (0, .ref (b 0)), (1, .ref (b j)), (2, .int tt), (3, .int (mixI sd tt)), (4, .int (nI p)), (5, .int (nI (lotN (mixI sd tt)))), (6, .int (nI (mostN K p))), (7, .long (lN (sm (whN K f p) (mostN K p + 1)))), (9, .int (nI 0)), (12, .int (nI i))]) C dX6_tick1_168 (by decide) rfl ?_
                      refine xlload C 1 rfl dX6_tick1_170 ?_
                      refine xlconst (v := lN 0) C dX6_tick1_172 (by decide) ?_
                      refine xlcmp_le C 218 dX6_tick1_173 dX6_tick1_174 (by decide) (by have := waN_le hW f p (nohN K p i); omega) (by decide) (fun h174 => ?_) (fun h174 => ?_)
                      ·
                        have h174n : ¬ lotN (mixI sd tt) * sm (whN K f p) (mostN K p + 1) < 65536 * sm (whN K f p) (i + 1) := by rw [show sm (whN K f p) (i + 1) = sm (whN K f p) i + waN K f p (nohN K p i) from rfl, show waN K f p (nohN K p i) = 0 by omega, Nat.add_zero]; exact hz
                        refine xiincN (lv' := [(12, .int (nI (i + 1))), (10, .long (lN (sm (whN K f p) (i + 1)))), (14, .long (lN (waN K f p (nohN K p i)))), (13, .int (nI (nohN K p i))), (0, .ref (b 0)), (1, .ref (b j)), (2, .int tt), (3, .int (mixI sd tt)), (4, .int (nI p)), (5, .int (nI (lotN (mixI sd tt)))), (6, .int (nI (mostN K p))), (7, .long (lN (sm (whN K f p) (mostN K p + 1)))), (9, .int (nI 0))]) C 12 rfl dX6_tick1_218 (by decide) rfl ?_
                        refine xgoto C 129 dX6_tick1_221 (by decide) ?_
                        refine xsub [4, 5, 6, 7, 8, 9, 10, 11, 12, 1, 0] rfl ?_
                        exact ih129 (i + 1) (by omega) (lt_s hno h174n) h174n (by omega)
                      ·
                        refine xiload C 8 rfl dX6_tick1_177 ?_
                        refine xi2lN C (by omega) dX6_tick1_179 ?_
                        refine xlload C 10 rfl dX6_tick1_180 ?_
                        refine xlmulN C dX6_tick1_182 ?_
                        refine xldc2 C dX6_tick1_183 xcn_X6_120 ?_
                        refine xtopl (y := lN 65536) (by decide +kernel) ?_
                        refine xlload C 0 rfl dX6_tick1_186 ?_
                        refine xlmulN C dX6_tick1_188 ?_
                        refine xlcmp_ge C 218 dX6_tick1_189 dX6_tick1_190 (by decide) (whN_lt1 hW hp hl16) (whN_lt2 hW hp (by omega)) (fun h190 => ?_) (fun h190 => ?_)
                        ·
                          refine xiincN (lv' := [(12, .int (nI (i + 1))), (10, .long (lN (sm (whN K f p) (i + 1)))), (14, .long (lN (waN K f p (nohN K p i)))), (13, .int (nI (nohN K p i))), (0, .ref (b 0)), (1, .ref (b j)), (2, .int tt), (3, .int (mixI sd tt)), (4, .int (nI p)), (5, .int (nI (lotN (mixI sd tt)))), (6, .int (nI (mostN K p))), (7, .long (lN (sm (whN K f p) (mostN K p + 1)))), (9, .int (nI 0))]) C 12 rfl dX6_tick1_218 (by decide) rfl ?_
                          refine xgoto C 129 dX6_tick1_221 (by decide) ?_
                          refine xsub [4, 5, 6, 7, 8, 9, 10, 11, 12, 1, 0] rfl ?_
                          exact ih129 (i + 1) (by omega) (lt_s hno (Nat.not_lt.mpr h190)) (Nat.not_lt.mpr h190) (by omega)
                        ·
                          have hcs : chN K f p (lotN (mixI sd tt)) = nohN K p i := chN_some (by omega) (by omega) hno
                          have hx5 : nohN K p i ≤ 5 := nohN_le (by have := mostN_le hW hp; omega)
                          refine xaload_n C 4 rfl dX6_tick1_193 ?_
                          refine xiload C 7 rfl dX6_tick1_194 ?_
                          refine ma_st C hW j h8 hj hS p (by omega) dX6_tick1_196 ?_
                          have fb196 := (hS p (by omega)).2
                          refine xiload C 2 rfl dX6_tick1_197 ?_
                          refine xicmp_eqN C 206 dX6_tick1_199 (by decide) (by omega) (by omega) (fun h199 => ?_) (fun h199 => ?_)
                          ·
                            refine xiconst (v := nI 0) C dX6_tick1_206 (by decide) ?_
                            refine xistore (lv' := [(16, .int (nI 0)), (10, .long (lN (sm (whN K f p) (i + 1)))), (14, .long (lN (waN K f p (nohN K p i)))), (13, .int (nI (nohN K p i))), (0, .ref (b 0)), (1, .ref (b j)), (2, .int tt), (3, .int (mixI sd tt)), (4, .int (nI p)), (5, .int (nI (lotN (mixI sd tt)))), (6, .int (nI (mostN K p))), (7, .long (lN (sm (whN K f p) (mostN K p + 1)))), (9, .int (nI 0)), (12, .int (nI i))]) C dX6_tick1_207 (by decide) rfl ?_
                            refine xaload_n C 5 rfl dX6_tick1_209 ?_
                            refine xiload C 8 rfl dX6_tick1_210 ?_
                            refine xiload C 3 rfl dX6_tick1_212 ?_
                            refine ms_st C j h8 hj p (by omega) dX6_tick1_214 ?_
                            obtain ⟨FA, eFA⟩ : ∃ z : Nat → Nat → Int32, z = va_up F j (upd (F j) p (nI (nohN K p i))) := ⟨_, rfl⟩
                            refine xworld (ws' := WM b t I FA) (by rw [eFA]) ?_
                            have hXA : ∀ q, q ≠ j → FA q = F q := fun q hq => by rw [eFA, va_up_ne _ _ hq]
                            have hSA : RA (kn K) (FA j) (tkN K sd f tt) := by rw [eFA, va_up_self]; exact tk_up hS (ech.trans hcs) hx5 epl
                            refine xiload C 0 rfl dX6_tick1_215 ?_
                            exact xret C hR (by rfl) dX6_tick1_217 (⟨_, rfl, by rw [bn_f (P := chgP K sd f tt) (fun q => q (by rw [← epl]; exact hcs.trans h199.symm))], FA, rfl, hXA, hSA⟩)
                          ·
                            refine xiconst (v := nI 1) C dX6_tick1_202 (by decide) ?_
                            refine xgoto C 207 dX6_tick1_203 (by decide) ?_
                            refine xistore (lv' := [(16, .int (nI 1)), (10, .long (lN (sm (whN K f p) (i + 1)))), (14, .long (lN (waN K f p (nohN K p i)))), (13, .int (nI (nohN K p i))), (0, .ref (b 0)), (1, .ref (b j)), (2, .int tt), (3, .int (mixI sd tt)), (4, .int (nI p)), (5, .int (nI (lotN (mixI sd tt)))), (6, .int (nI (mostN K p))), (7, .long (lN (sm (whN K f p) (mostN K p + 1)))), (9, .int (nI 0)), (12, .int (nI i))]) C dX6_tick1_207 (by decide) rfl ?_
                            refine xaload_n C 5 rfl dX6_tick1_209 ?_
                            refine xiload C 8 rfl dX6_tick1_210 ?_
                            refine xiload C 3 rfl dX6_tick1_212 ?_
                            refine ms_st C j h8 hj p (by omega) dX6_tick1_214 ?_
                            obtain ⟨FA, eFA⟩ : ∃ z : Nat → Nat → Int32, z = va_up F j (upd (F j) p (nI (nohN K p i))) := ⟨_, rfl⟩
                            refine xworld (ws' := WM b t I FA) (by rw [eFA]) ?_
                            have hXA : ∀ q, q ≠ j → FA q = F q := fun q hq => by rw [eFA, va_up_ne _ _ hq]
                            have hSA : RA (kn K) (FA j) (tkN K sd f tt) := by rw [eFA, va_up_self]; exact tk_up hS (ech.trans hcs) hx5 epl
                            refine xiload C 0 rfl dX6_tick1_215 ?_
                            exact xret C hR (by rfl) dX6_tick1_217 (⟨_, rfl, by rw [bn_t (P := chgP K sd f tt) (fun q => by rw [← epl] at q; exact h199 (q.symm.trans hcs))], FA, rfl, hXA, hSA⟩)
                    · exact absurd rfl h138
              refine xsub [3, 4, 5, 6, 7, 8, 9, 10, 2, 1, 0] rfl ?_
              exact LP129 _ 0 (Nat.zero_le _) (fun x h => absurd h (Nat.not_lt_zero _)) (by show ¬ _ < 65536 * 0; omega) (Nat.lt_succ_self _)
            ·
              refine xaload_n C 0 rfl dX6_tick1_105 ?_
              refine gX6_13 C dX6_tick1_106 ?_
              refine xiload C 4 rfl dX6_tick1_109 ?_
              refine ma_si C hK hW p (by omega) dX6_tick1_111 ?_
              have fb111 := (hW.si1 (by omega))
              refine xiconst (v := nI 1) C dX6_tick1_112 (by decide) ?_
              refine xicmp_neN C 120 dX6_tick1_113 (by decide) (by omega) (by omega) (fun h113 => ?_) (fun h113 => ?_)
              ·
                refine xiconst (v := nI 0) C dX6_tick1_120 (by decide) ?_
                refine xistore (lv' := [(9, .int (nI 0)), (0, .ref (b 0)), (1, .ref (b j)), (2, .int tt), (3, .int (mixI sd tt)), (4, .int (nI p)), (5, .int (nI (lotN (mixI sd tt)))), (6, .int (nI (mostN K p))), (7, .long (lN (sm (whN K f p) (mostN K p + 1))))]) C dX6_tick1_121 (by decide) rfl ?_
                refine xlconst (v := lN 0) C dX6_tick1_123 (by decide) ?_
                refine xlstore (lv' := [(10, .long (lN 0)), (9, .int (nI 0)), (0, .ref (b 0)), (1, .ref (b j)), (2, .int tt), (3, .int (mixI sd tt)), (4, .int (nI p)), (5, .int (nI (lotN (mixI sd tt)))), (6, .int (nI (mostN K p))), (7, .long (lN (sm (whN K f p) (mostN K p + 1))))]) C dX6_tick1_124 (by decide) rfl ?_
                refine xiconst (v := nI 0) C dX6_tick1_126 (by decide) ?_
                refine xistore (lv' := [(12, .int (nI 0)), (10, .long (lN 0)), (9, .int (nI 0)), (0, .ref (b 0)), (1, .ref (b j)), (2, .int tt), (3, .int (mixI sd tt)), (4, .int (nI p)), (5, .int (nI (lotN (mixI sd tt)))), (6, .int (nI (mostN K p))), (7, .long (lN (sm (whN K f p) (mostN K p + 1))))]) C dX6_tick1_127 (by decide) rfl ?_
                have LP129 : ∀ (fu129 : Nat) (i : Nat) (hi : i ≤ mostN K p + 1) (hno : ∀ x, x < i → ¬ lotN (mixI sd tt) * sm (whN K f p) (mostN K p + 1) < 65536 * sm (whN K f p) (x + 1)) (hz : ¬ lotN (mixI sd tt) * sm (whN K f p) (mostN K p + 1) < 65536 * sm (whN K f p) i), mostN K p + 1 - i < fu129 → XW X 0 0 (WM b t I F) [(0, .ref (b 0)), (1, .ref (b j)), (2, .int tt), (3, .int (mixI sd tt)), (4, .int (nI p)), (5, .int (nI (lotN (mixI sd tt)))), (6, .int (nI (mostN K p))), (7, .long (lN (sm (whN K f p) (mostN K p + 1)))), (9, .int (nI 0)), (10, .long (lN (sm (whN K f p) i))), (12, .int (nI i))] 129 [] := by
                  intro fu129
                  induction fu129 with
                  | zero => intro i hi hno hz hm129; exact absurd hm129 (Nat.not_lt_zero _)
                  | succ fu129 ih129 =>
                    intro i hi hno hz hm129
                    refine xiload C 10 rfl dX6_tick1_129 ?_
                    refine xiload C 6 rfl dX6_tick1_131 ?_
                    refine xicmp_gtN C 224 dX6_tick1_133 (by decide) (by omega) (by omega) (fun h133 => ?_) (fun h133 => ?_)
                    ·
                      refine xiconst (v := nI 0) C dX6_tick1_224 (by decide) ?_
                      exact xret C hR (by rfl) dX6_tick1_225 (⟨_, rfl, by rw [bn_f (P := chgP K sd f tt) (fun q => q (by rw [← epl]; exact ch_none hno (by omega)))], F, rfl, fun _ _ => rfl, tk_ra hS (ech.trans (ch_none hno (by omega))) epl⟩)
                    ·
                      refine xiload C 8 rfl dX6_tick1_136 ?_
                      refine xif_eqN C 148 dX6_tick1_138 (by decide) (by omega) (fun h138 => ?_) (fun h138 => ?_)
                      ·
                        refine xiload C 10 rfl dX6_tick1_148 ?_
                        refine xtopi (y := nI (nohN K p i)) (congrArg nI (noh_n (by omega))) ?_
                        refine xistore (lv' := [(13, .int (nI (nohN K p i))), (0, .ref (b 0)), (1, .ref (b j)), (2, .int tt), (3, .int (mixI sd tt)), (4, .int (nI p)), (5, .int (nI (lotN (mixI sd tt)))), (6, .int (nI (mostN K p))), (7, .long (lN (sm (whN K f p) (mostN K p + 1)))), (9, .int (nI 0)), (10, .long (lN (sm (whN K f p) i))), (12, .int (nI i))]) C dX6_tick1_150 (by decide) rfl ?_
                        refine xaload_n C 1 rfl dX6_tick1_152 ?_
                        refine xaload_n C 2 rfl dX6_tick1_153 ?_
                        refine xiload C 5 rfl dX6_tick1_154 ?_
                        refine xiload C 0 rfl dX6_tick1_156 ?_
                        refine xcVR C (c_X6_weightAt hK hW j h8 hj hS p hp (nohN K p i) (noh_m (show i ≤ mostN K p by omega)) (hh)) yk_X6_weightAt 0 rfl rfl xml_X6_116 ⟨⟨Nat.le_of_ble_eq_true rfl, Nat.le_of_ble_eq_true rfl⟩, ⟨rfl, rfl⟩, ⟨Nat.zero_le _, Nat.zero_le _⟩⟩ rfl (Nat.le_of_ble_eq_true rfl) dX6_tick1_158 ?_
                        refine xlstore (lv' := [(14, .long (lN (waN K f p (nohN K p i)))), (13, .int (nI (nohN K p i))), (0, .ref (b 0)), (1, .ref (b j)), (2, .int tt), (3, .int (mixI sd tt)), (4, .int (nI p)), (5, .int (nI (lotN (mixI sd tt)))), (6, .int (nI (mostN K p))), (7, .long (lN (sm (whN K f p) (mostN K p + 1)))), (9, .int (nI 0)), (10, .long (lN (sm (whN K f p) i))), (12, .int (nI i))]) C dX6_tick1_161 (by decide) rfl ?_
                        refine xlload C 11 rfl dX6_tick1_163 ?_
                        refine xlload C 0 rfl dX6_tick1_165 ?_
                        refine xladdN C dX6_tick1_167 ?_
                        refine xtopl (y := lN (sm (whN K f p) (i + 1))) (rfl) ?_
                        refine xlstore (lv' := [(10, .long (lN (sm (whN K f p) (i + 1)))), (14, .long (lN (waN K f p (nohN K p i)))), (13, .int (nI (nohN K p i))), (0, .ref (b 0)), (1, .ref (b j)), (2, .int tt), (3, .int (mixI sd tt)), (4, .int (nI p)), (5, .int (nI (lotN (mixI sd tt)))), (6, .int (nI (mostN K p))), (7, .long (lN (sm (whN K f p) (mostN K p + 1)))), (9, .int (nI 0)), (12, .int (nI i))]) C dX6_tick1_168 (by decide) rfl ?_
                        refine xlload C 1 rfl dX6_tick1_170 ?_
                        refine xlconst (v := lN 0) C dX6_tick1_172 (by decide) ?_
                        refine xlcmp_le C 218 dX6_tick1_173 dX6_tick1_174 (by decide) (by have := waN_le hW f p (nohN K p i); omega) (by decide) (fun h174 => ?_) (fun h174 => ?_)
                        ·
                          have h174n : ¬ lotN (mixI sd tt) * sm (whN K f p) (mostN K p + 1) < 65536 * sm (whN K f p) (i + 1) := by rw [show sm (whN K f p) (i + 1) = sm (whN K f p) i + waN K f p (nohN K p i) from rfl, show waN K f p (nohN K p i) = 0 by omega, Nat.add_zero]; exact hz
                          refine xiincN (lv' := [(12, .int (nI (i + 1))), (10, .long (lN (sm (whN K f p) (i + 1)))), (14, .long (lN (waN K f p (nohN K p i)))), (13, .int (nI (nohN K p i))), (0, .ref (b 0)), (1, .ref (b j)), (2, .int tt), (3, .int (mixI sd tt)), (4, .int (nI p)), (5, .int (nI (lotN (mixI sd tt)))), (6, .int (nI (mostN K p))), (7, .long (lN (sm (whN K f p) (mostN K p + 1)))), (9, .int (nI 0))]) C 12 rfl dX6_tick1_218 (by decide) rfl ?_
                          refine xgoto C 129 dX6_tick1_221 (by decide) ?_
                          refine xsub [4, 5, 6, 7, 8, 9, 10, 11, 12, 1, 0] rfl ?_
                          exact ih129 (i + 1) (by omega) (lt_s hno h174n) h174n (by omega)
                        ·
                          refine xiload C 8 rfl dX6_tick1_177 ?_
                          refine xi2lN C (by omega) dX6_tick1_179 ?_
                          refine xlload C 10 rfl dX6_tick1_180 ?_
                          refine xlmulN C dX6_tick1_182 ?_
                          refine xldc2 C dX6_tick1_183 xcn_X6_120 ?_
                          refine xtopl (y := lN 65536) (by decide +kernel) ?_
                          refine xlload C 0 rfl dX6_tick1_186 ?_
                          refine xlmulN C dX6_tick1_188 ?_
                          refine xlcmp_ge C 218 dX6_tick1_189 dX6_tick1_190 (by decide) (whN_lt1 hW hp hl16) (whN_lt2 hW hp (by omega)) (fun h190 => ?_) (fun h190 => ?_)
                          ·
                            refine xiincN (lv' := [(12, .int (nI (i + 1))), (10, .long (lN (sm (whN K f p) (i + 1)))), (14, .long (lN (waN K f p (nohN K p i)))), (13, .int (nI (nohN K p i))), (0, .ref (b 0)), (1, .ref (b j)), (2, .int tt), (3, .int (mixI sd tt)), (4, .int (nI p)), (5, .int (nI (lotN (mixI sd tt)))), (6, .int (nI (mostN K p))), (7, .long (lN (sm (whN K f p) (mostN K p + 1)))), (9, .int (nI 0))]) C 12 rfl dX6_tick1_218 (by decide) rfl ?_
                            refine xgoto C 129 dX6_tick1_221 (by decide) ?_
                            refine xsub [4, 5, 6, 7, 8, 9, 10, 11, 12, 1, 0] rfl ?_
                            exact ih129 (i + 1) (by omega) (lt_s hno (Nat.not_lt.mpr h190)) (Nat.not_lt.mpr h190) (by omega)
                          ·
                            have hcs : chN K f p (lotN (mixI sd tt)) = nohN K p i := chN_some (by omega) (by omega) hno
                            have hx5 : nohN K p i ≤ 5 := nohN_le (by have := mostN_le hW hp; omega)
                            refine xaload_n C 4 rfl dX6_tick1_193 ?_
                            refine xiload C 7 rfl dX6_tick1_194 ?_
                            refine ma_st C hW j h8 hj hS p (by omega) dX6_tick1_196 ?_
                            have fb196 := (hS p (by omega)).2
                            refine xiload C 2 rfl dX6_tick1_197 ?_
                            refine xicmp_eqN C 206 dX6_tick1_199 (by decide) (by omega) (by omega) (fun h199 => ?_) (fun h199 => ?_)
                            ·
                              refine xiconst (v := nI 0) C dX6_tick1_206 (by decide) ?_
                              refine xistore (lv' := [(16, .int (nI 0)), (10, .long (lN (sm (whN K f p) (i + 1)))), (14, .long (lN (waN K f p (nohN K p i)))), (13, .int (nI (nohN K p i))), (0, .ref (b 0)), (1, .ref (b j)), (2, .int tt), (3, .int (mixI sd tt)), (4, .int (nI p)), (5, .int (nI (lotN (mixI sd tt)))), (6, .int (nI (mostN K p))), (7, .long (lN (sm (whN K f p) (mostN K p + 1)))), (9, .int (nI 0)), (12, .int (nI i))]) C dX6_tick1_207 (by decide) rfl ?_
                              refine xaload_n C 5 rfl dX6_tick1_209 ?_
                              refine xiload C 8 rfl dX6_tick1_210 ?_
                              refine xiload C 3 rfl dX6_tick1_212 ?_
                              refine ms_st C j h8 hj p (by omega) dX6_tick1_214 ?_
                              obtain ⟨FA, eFA⟩ : ∃ z : Nat → Nat → Int32, z = va_up F j (upd (F j) p (nI (nohN K p i))) := ⟨_, rfl⟩
                              refine xworld (ws' := WM b t I FA) (by rw [eFA]) ?_
                              have hXA : ∀ q, q ≠ j → FA q = F q := fun q hq => by rw [eFA, va_up_ne _ _ hq]
                              have hSA : RA (kn K) (FA j) (tkN K sd f tt) := by rw [eFA, va_up_self]; exact tk_up hS (ech.trans hcs) hx5 epl
                              refine xiload C 0 rfl dX6_tick1_215 ?_
                              exact xret C hR (by rfl) dX6_tick1_217 (⟨_, rfl, by rw [bn_f (P := chgP K sd f tt) (fun q => q (by rw [← epl]; exact hcs.trans h199.symm))], FA, rfl, hXA, hSA⟩)
                            ·
                              refine xiconst (v := nI 1) C dX6_tick1_202 (by decide) ?_
                              refine xgoto C 207 dX6_tick1_203 (by decide) ?_
                              refine xistore (lv' := [(16, .int (nI 1)), (10, .long (lN (sm (whN K f p) (i + 1)))), (14, .long (lN (waN K f p (nohN K p i)))), (13, .int (nI (nohN K p i))), (0, .ref (b 0)), (1, .ref (b j)), (2, .int tt), (3, .int (mixI sd tt)), (4, .int (nI p)), (5, .int (nI (lotN (mixI sd tt)))), (6, .int (nI (mostN K p))), (7, .long (lN (sm (whN K f p) (mostN K p + 1)))), (9, .int (nI 0)), (12, .int (nI i))]) C dX6_tick1_207 (by decide) rfl ?_
                              refine xaload_n C 5 rfl dX6_tick1_209 ?_
                              refine xiload C 8 rfl dX6_tick1_210 ?_
                              refine xiload C 3 rfl dX6_tick1_212 ?_
                              refine ms_st C j h8 hj p (by omega) dX6_tick1_214 ?_
                              obtain ⟨FA, eFA⟩ : ∃ z : Nat → Nat → Int32, z = va_up F j (upd (F j) p (nI (nohN K p i))) := ⟨_, rfl⟩
                              refine xworld (ws' := WM b t I FA) (by rw [eFA]) ?_
                              have hXA : ∀ q, q ≠ j → FA q = F q := fun q hq => by rw [eFA, va_up_ne _ _ hq]
                              have hSA : RA (kn K) (FA j) (tkN K sd f tt) := by rw [eFA, va_up_self]; exact tk_up hS (ech.trans hcs) hx5 epl
                              refine xiload C 0 rfl dX6_tick1_215 ?_
                              exact xret C hR (by rfl) dX6_tick1_217 (⟨_, rfl, by rw [bn_t (P := chgP K sd f tt) (fun q => by rw [← epl] at q; exact h199 (q.symm.trans hcs))], FA, rfl, hXA, hSA⟩)
                      · exact absurd rfl h138
                refine xsub [3, 4, 5, 6, 7, 8, 9, 10, 2, 1, 0] rfl ?_
                exact LP129 _ 0 (Nat.zero_le _) (fun x h => absurd h (Nat.not_lt_zero _)) (by show ¬ _ < 65536 * 0; omega) (Nat.lt_succ_self _)
              ·
                refine xiconst (v := nI 1) C dX6_tick1_116 (by decide) ?_
                refine xgoto C 121 dX6_tick1_117 (by decide) ?_
                refine xistore (lv' := [(9, .int (nI 1)), (0, .ref (b 0)), (1, .ref (b j)), (2, .int tt), (3, .int (mixI sd tt)), (4, .int (nI p)), (5, .int (nI (lotN (mixI sd tt)))), (6, .int (nI (mostN K p))), (7, .long (lN (sm (whN K f p) (mostN K p + 1))))]) C dX6_tick1_121 (by decide) rfl ?_
                refine xlconst (v := lN 0) C dX6_tick1_123 (by decide) ?_
                refine xlstore (lv' := [(10, .long (lN 0)), (9, .int (nI 1)), (0, .ref (b 0)), (1, .ref (b j)), (2, .int tt), (3, .int (mixI sd tt)), (4, .int (nI p)), (5, .int (nI (lotN (mixI sd tt)))), (6, .int (nI (mostN K p))), (7, .long (lN (sm (whN K f p) (mostN K p + 1))))]) C dX6_tick1_124 (by decide) rfl ?_
                refine xiconst (v := nI 0) C dX6_tick1_126 (by decide) ?_
                refine xistore (lv' := [(12, .int (nI 0)), (10, .long (lN 0)), (9, .int (nI 1)), (0, .ref (b 0)), (1, .ref (b j)), (2, .int tt), (3, .int (mixI sd tt)), (4, .int (nI p)), (5, .int (nI (lotN (mixI sd tt)))), (6, .int (nI (mostN K p))), (7, .long (lN (sm (whN K f p) (mostN K p + 1))))]) C dX6_tick1_127 (by decide) rfl ?_
                have LP129 : ∀ (fu129 : Nat) (i : Nat) (hi : i ≤ mostN K p + 1) (hno : ∀ x, x < i → ¬ lotN (mixI sd tt) * sm (whN K f p) (mostN K p + 1) < 65536 * sm (whN K f p) (x + 1)) (hz : ¬ lotN (mixI sd tt) * sm (whN K f p) (mostN K p + 1) < 65536 * sm (whN K f p) i), mostN K p + 1 - i < fu129 → XW X 0 0 (WM b t I F) [(0, .ref (b 0)), (1, .ref (b j)), (2, .int tt), (3, .int (mixI sd tt)), (4, .int (nI p)), (5, .int (nI (lotN (mixI sd tt)))), (6, .int (nI (mostN K p))), (7, .long (lN (sm (whN K f p) (mostN K p + 1)))), (9, .int (nI 1)), (10, .long (lN (sm (whN K f p) i))), (12, .int (nI i))] 129 [] := by
                  intro fu129
                  induction fu129 with
                  | zero => intro i hi hno hz hm129; exact absurd hm129 (Nat.not_lt_zero _)
                  | succ fu129 ih129 =>
                    intro i hi hno hz hm129
                    refine xiload C 10 rfl dX6_tick1_129 ?_
                    refine xiload C 6 rfl dX6_tick1_131 ?_
                    refine xicmp_gtN C 224 dX6_tick1_133 (by decide) (by omega) (by omega) (fun h133 => ?_) (fun h133 => ?_)
                    ·
                      refine xiconst (v := nI 0) C dX6_tick1_224 (by decide) ?_
                      exact xret C hR (by rfl) dX6_tick1_225 (⟨_, rfl, by rw [bn_f (P := chgP K sd f tt) (fun q => q (by rw [← epl]; exact ch_none hno (by omega)))], F, rfl, fun _ _ => rfl, tk_ra hS (ech.trans (ch_none hno (by omega))) epl⟩)
                    ·
                      refine xiload C 8 rfl dX6_tick1_136 ?_
                      refine xif_eqN C 148 dX6_tick1_138 (by decide) (by omega) (fun h138 => ?_) (fun h138 => ?_)
                      · exact absurd h138 (by decide)
                      ·
                        refine xiconst (v := nI 1) C dX6_tick1_141 (by decide) ?_
                        refine xiload C 10 rfl dX6_tick1_142 ?_
                        refine xisubN C (by have := most_n (K := K) (p := p) (by omega); omega) dX6_tick1_144 ?_
                        refine xgoto C 150 dX6_tick1_145 (by decide) ?_
                        refine xtopi (y := nI (nohN K p i)) (congrArg nI (noh_t (by omega) (by omega))) ?_
                        refine xistore (lv' := [(13, .int (nI (nohN K p i))), (0, .ref (b 0)), (1, .ref (b j)), (2, .int tt), (3, .int (mixI sd tt)), (4, .int (nI p)), (5, .int (nI (lotN (mixI sd tt)))), (6, .int (nI (mostN K p))), (7, .long (lN (sm (whN K f p) (mostN K p + 1)))), (9, .int (nI 1)), (10, .long (lN (sm (whN K f p) i))), (12, .int (nI i))]) C dX6_tick1_150 (by decide) rfl ?_
                        refine xaload_n C 1 rfl dX6_tick1_152 ?_
                        refine xaload_n C 2 rfl dX6_tick1_153 ?_
                        refine xiload C 5 rfl dX6_tick1_154 ?_
                        refine xiload C 0 rfl dX6_tick1_156 ?_
                        refine xcVR C (c_X6_weightAt hK hW j h8 hj hS p hp (nohN K p i) (noh_m (show i ≤ mostN K p by omega)) (hh)) yk_X6_weightAt 0 rfl rfl xml_X6_116 ⟨⟨Nat.le_of_ble_eq_true rfl, Nat.le_of_ble_eq_true rfl⟩, ⟨rfl, rfl⟩, ⟨Nat.zero_le _, Nat.zero_le _⟩⟩ rfl (Nat.le_of_ble_eq_true rfl) dX6_tick1_158 ?_
                        refine xlstore (lv' := [(14, .long (lN (waN K f p (nohN K p i)))), (13, .int (nI (nohN K p i))), (0, .ref (b 0)), (1, .ref (b j)), (2, .int tt), (3, .int (mixI sd tt)), (4, .int (nI p)), (5, .int (nI (lotN (mixI sd tt)))), (6, .int (nI (mostN K p))), (7, .long (lN (sm (whN K f p) (mostN K p + 1)))), (9, .int (nI 1)), (10, .long (lN (sm (whN K f p) i))), (12, .int (nI i))]) C dX6_tick1_161 (by decide) rfl ?_
                        refine xlload C 11 rfl dX6_tick1_163 ?_
                        refine xlload C 0 rfl dX6_tick1_165 ?_
                        refine xladdN C dX6_tick1_167 ?_
                        refine xtopl (y := lN (sm (whN K f p) (i + 1))) (rfl) ?_
                        refine xlstore (lv' := [(10, .long (lN (sm (whN K f p) (i + 1)))), (14, .long (lN (waN K f p (nohN K p i)))), (13, .int (nI (nohN K p i))), (0, .ref (b 0)), (1, .ref (b j)), (2, .int tt), (3, .int (mixI sd tt)), (4, .int (nI p)), (5, .int (nI (lotN (mixI sd tt)))), (6, .int (nI (mostN K p))), (7, .long (lN (sm (whN K f p) (mostN K p + 1)))), (9, .int (nI 1)), (12, .int (nI i))]) C dX6_tick1_168 (by decide) rfl ?_
                        refine xlload C 1 rfl dX6_tick1_170 ?_
                        refine xlconst (v := lN 0) C dX6_tick1_172 (by decide) ?_
                        refine xlcmp_le C 218 dX6_tick1_173 dX6_tick1_174 (by decide) (by have := waN_le hW f p (nohN K p i); omega) (by decide) (fun h174 => ?_) (fun h174 => ?_)
                        ·
                          have h174n : ¬ lotN (mixI sd tt) * sm (whN K f p) (mostN K p + 1) < 65536 * sm (whN K f p) (i + 1) := by rw [show sm (whN K f p) (i + 1) = sm (whN K f p) i + waN K f p (nohN K p i) from rfl, show waN K f p (nohN K p i) = 0 by omega, Nat.add_zero]; exact hz
                          refine xiincN (lv' := [(12, .int (nI (i + 1))), (10, .long (lN (sm (whN K f p) (i + 1)))), (14, .long (lN (waN K f p (nohN K p i)))), (13, .int (nI (nohN K p i))), (0, .ref (b 0)), (1, .ref (b j)), (2, .int tt), (3, .int (mixI sd tt)), (4, .int (nI p)), (5, .int (nI (lotN (mixI sd tt)))), (6, .int (nI (mostN K p))), (7, .long (lN (sm (whN K f p) (mostN K p + 1)))), (9, .int (nI 1))]) C 12 rfl dX6_tick1_218 (by decide) rfl ?_
                          refine xgoto C 129 dX6_tick1_221 (by decide) ?_
                          refine xsub [4, 5, 6, 7, 8, 9, 10, 11, 12, 1, 0] rfl ?_
                          exact ih129 (i + 1) (by omega) (lt_s hno h174n) h174n (by omega)
                        ·
                          refine xiload C 8 rfl dX6_tick1_177 ?_
                          refine xi2lN C (by omega) dX6_tick1_179 ?_
                          refine xlload C 10 rfl dX6_tick1_180 ?_
                          refine xlmulN C dX6_tick1_182 ?_
                          refine xldc2 C dX6_tick1_183 xcn_X6_120 ?_
                          refine xtopl (y := lN 65536) (by decide +kernel) ?_
                          refine xlload C 0 rfl dX6_tick1_186 ?_
                          refine xlmulN C dX6_tick1_188 ?_
                          refine xlcmp_ge C 218 dX6_tick1_189 dX6_tick1_190 (by decide) (whN_lt1 hW hp hl16) (whN_lt2 hW hp (by omega)) (fun h190 => ?_) (fun h190 => ?_)
                          ·
                            refine xiincN (lv' := [(12, .int (nI (i + 1))), (10, .long (lN (sm (whN K f p) (i + 1)))), (14, .long (lN (waN K f p (nohN K p i)))), (13, .int (nI (nohN K p i))), (0, .ref (b 0)), (1, .ref (b j)), (2, .int tt), (3, .int (mixI sd tt)), (4, .int (nI p)), (5, .int (nI (lotN (mixI sd tt)))), (6, .int (nI (mostN K p))), (7, .long (lN (sm (whN K f p) (mostN K p + 1)))), (9, .int (nI 1))]) C 12 rfl dX6_tick1_218 (by decide) rfl ?_
                            refine xgoto C 129 dX6_tick1_221 (by decide) ?_
                            refine xsub [4, 5, 6, 7, 8, 9, 10, 11, 12, 1, 0] rfl ?_
                            exact ih129 (i + 1) (by omega) (lt_s hno (Nat.not_lt.mpr h190)) (Nat.not_lt.mpr h190) (by omega)
                          ·
                            have hcs : chN K f p (lotN (mixI sd tt)) = nohN K p i := chN_some (by omega) (by omega) hno
                            have hx5 : nohN K p i ≤ 5 := nohN_le (by have := mostN_le hW hp; omega)
                            refine xaload_n C 4 rfl dX6_tick1_193 ?_
                            refine xiload C 7 rfl dX6_tick1_194 ?_
                            refine ma_st C hW j h8 hj hS p (by omega) dX6_tick1_196 ?_
                            have fb196 := (hS p (by omega)).2
                            refine xiload C 2 rfl dX6_tick1_197 ?_
                            refine xicmp_eqN C 206 dX6_tick1_199 (by decide) (by omega) (by omega) (fun h199 => ?_) (fun h199 => ?_)
                            ·
                              refine xiconst (v := nI 0) C dX6_tick1_206 (by decide) ?_
                              refine xistore (lv' := [(16, .int (nI 0)), (10, .long (lN (sm (whN K f p) (i + 1)))), (14, .long (lN (waN K f p (nohN K p i)))), (13, .int (nI (nohN K p i))), (0, .ref (b 0)), (1, .ref (b j)), (2, .int tt), (3, .int (mixI sd tt)), (4, .int (nI p)), (5, .int (nI (lotN (mixI sd tt)))), (6, .int (nI (mostN K p))), (7, .long (lN (sm (whN K f p) (mostN K p + 1)))), (9, .int (nI 1)), (12, .int (nI i))]) C dX6_tick1_207 (by decide) rfl ?_
                              refine xaload_n C 5 rfl dX6_tick1_209 ?_
                              refine xiload C 8 rfl dX6_tick1_210 ?_
                              refine xiload C 3 rfl dX6_tick1_212 ?_
                              refine ms_st C j h8 hj p (by omega) dX6_tick1_214 ?_
                              obtain ⟨FA, eFA⟩ : ∃ z : Nat → Nat → Int32, z = va_up F j (upd (F j) p (nI (nohN K p i))) := ⟨_, rfl⟩
                              refine xworld (ws' := WM b t I FA) (by rw [eFA]) ?_
                              have hXA : ∀ q, q ≠ j → FA q = F q := fun q hq => by rw [eFA, va_up_ne _ _ hq]
                              have hSA : RA (kn K) (FA j) (tkN K sd f tt) := by rw [eFA, va_up_self]; exact tk_up hS (ech.trans hcs) hx5 epl
                              refine xiload C 0 rfl dX6_tick1_215 ?_
                              exact xret C hR (by rfl) dX6_tick1_217 (⟨_, rfl, by rw [bn_f (P := chgP K sd f tt) (fun q => q (by rw [← epl]; exact hcs.trans h199.symm))], FA, rfl, hXA, hSA⟩)
                            ·
                              refine xiconst (v := nI 1) C dX6_tick1_202 (by decide) ?_
                              refine xgoto C 207 dX6_tick1_203 (by decide) ?_
                              refine xistore (lv' := [(16, .int (nI 1)), (10, .long (lN (sm (whN K f p) (i + 1)))), (14, .long (lN (waN K f p (nohN K p i)))), (13, .int (nI (nohN K p i))), (0, .ref (b 0)), (1, .ref (b j)), (2, .int tt), (3, .int (mixI sd tt)), (4, .int (nI p)), (5, .int (nI (lotN (mixI sd tt)))), (6, .int (nI (mostN K p))), (7, .long (lN (sm (whN K f p) (mostN K p + 1)))), (9, .int (nI 1)), (12, .int (nI i))]) C dX6_tick1_207 (by decide) rfl ?_
                              refine xaload_n C 5 rfl dX6_tick1_209 ?_
                              refine xiload C 8 rfl dX6_tick1_210 ?_
                              refine xiload C 3 rfl dX6_tick1_212 ?_
                              refine ms_st C j h8 hj p (by omega) dX6_tick1_214 ?_
                              obtain ⟨FA, eFA⟩ : ∃ z : Nat → Nat → Int32, z = va_up F j (upd (F j) p (nI (nohN K p i))) := ⟨_, rfl⟩
                              refine xworld (ws' := WM b t I FA) (by rw [eFA]) ?_
                              have hXA : ∀ q, q ≠ j → FA q = F q := fun q hq => by rw [eFA, va_up_ne _ _ hq]
                              have hSA : RA (kn K) (FA j) (tkN K sd f tt) := by rw [eFA, va_up_self]; exact tk_up hS (ech.trans hcs) hx5 epl
                              refine xiload C 0 rfl dX6_tick1_215 ?_
                              exact xret C hR (by rfl) dX6_tick1_217 (⟨_, rfl, by rw [bn_t (P := chgP K sd f tt) (fun q => by rw [← epl] at q; exact h199 (q.symm.trans hcs))], FA, rfl, hXA, hSA⟩)
                refine xsub [3, 4, 5, 6, 7, 8, 9, 10, 2, 1, 0] rfl ?_
                exact LP129 _ 0 (Nat.zero_le _) (fun x h => absurd h (Nat.not_lt_zero _)) (by show ¬ _ < 65536 * 0; omega) (Nat.lt_succ_self _)
          ·
            refine xlload C 7 rfl dX6_tick1_77 ?_
            refine xaload_n C 0 rfl dX6_tick1_79 ?_
            refine xaload_n C 1 rfl dX6_tick1_80 ?_
            refine xiload C 4 rfl dX6_tick1_81 ?_
            refine xiload C 8 rfl dX6_tick1_83 ?_
            refine xcVR C (c_X6_weightAt hK hW j h8 hj hS p hp i (by omega) (hh)) yk_X6_weightAt 0 rfl rfl xml_X6_116 ⟨⟨Nat.le_of_ble_eq_true rfl, Nat.le_of_ble_eq_true rfl⟩, ⟨rfl, rfl⟩, ⟨Nat.zero_le _, Nat.zero_le _⟩⟩ rfl (Nat.le_of_ble_eq_true rfl) dX6_tick1_85 ?_
            refine xladdN C dX6_tick1_88 ?_
            refine xtopl (y := lN (sm (waN K f p) (i + 1))) (rfl) ?_
            refine xlstore (lv' := [(7, .long (lN (sm (waN K f p) (i + 1)))), (0, .ref (b 0)), (1, .ref (b j)), (2, .int tt), (3, .int (mixI sd tt)), (4, .int (nI p)), (5, .int (nI (lotN (mixI sd tt)))), (6, .int (nI (mostN K p))), (9, .int (nI i))]) C dX6_tick1_89 (by decide) rfl ?_
            refine xiincN (lv' := [(9, .int (nI (i + 1))), (7, .long (lN (sm (waN K f p) (i + 1)))), (0, .ref (b 0)), (1, .ref (b j)), (2, .int tt), (3, .int (mixI sd tt)), (4, .int (nI p)), (5, .int (nI (lotN (mixI sd tt)))), (6, .int (nI (mostN K p)))]) C 8 rfl dX6_tick1_91 (by decide) rfl ?_
            refine xgoto C 70 dX6_tick1_94 (by decide) ?_
            refine xsub [2, 3, 4, 5, 6, 7, 8, 1, 0] rfl ?_
            exact ih70 (i + 1) (by omega) (by omega)
      refine xsub [6, 7, 8, 5, 4, 3, 2, 1, 0] rfl ?_
      exact LP70 _ 0 (Nat.zero_le _) (Nat.lt_succ_self _)
    · exact absurd h48 (by omega)
  ·
    refine xaload_n C 3 rfl dX6_tick1_31 ?_
    refine gX6_16 C dX6_tick1_32 ?_
    refine xiload C 1 rfl dX6_tick1_35 ?_
    refine ma_hd C hK hW p (by omega) dX6_tick1_37 ?_
    have fb37 := (hW.hd6 (by omega))
    refine xif_lt C 43 dX6_tick1_38 (by decide) (fun h38 => ?_) (fun h38 => ?_)
    ·
      have hh : ¬ (kk K = 1 ∧ khd K p ≠ 0) := fun q => q.2 (hdl (by omega) h38)
      refine xaload_n C 3 rfl dX6_tick1_43 ?_
      refine gX6_90K C hK dX6_tick1_44 ?_
      refine xiconst (v := nI 1) C dX6_tick1_47 (by decide) ?_
      refine xicmp_neN C 61 dX6_tick1_48 (by decide) (by omega) (by omega) (fun h48 => ?_) (fun h48 => ?_)
      · exact absurd h28 h48
      ·
        refine xaload_n C 3 rfl dX6_tick1_51 ?_
        refine gX6_7 C dX6_tick1_52 ?_
        refine xiload C 1 rfl dX6_tick1_55 ?_
        refine ma_top C hK hW p (by omega) dX6_tick1_57 ?_
        have fb57 := (hW.top5 (by omega))
        refine xgoto C 62 dX6_tick1_58 (by decide) ?_
        refine xtopi (y := nI (mostN K p)) (by rw [most_1 h48]) ?_
        refine xistore (lv' := [(6, .int (nI (mostN K p))), (5, .int (nI (lotN (mixI sd tt)))), (4, .int (nI p)), (3, .int (mixI sd tt)), (0, .ref (b 0)), (1, .ref (b j)), (2, .int tt)]) C dX6_tick1_62 (by decide) rfl ?_
        refine xlconst (v := lN 0) C dX6_tick1_64 (by decide) ?_
        refine xlstore (lv' := [(7, .long (lN 0)), (6, .int (nI (mostN K p))), (5, .int (nI (lotN (mixI sd tt)))), (4, .int (nI p)), (3, .int (mixI sd tt)), (0, .ref (b 0)), (1, .ref (b j)), (2, .int tt)]) C dX6_tick1_65 (by decide) rfl ?_
        refine xiconst (v := nI 0) C dX6_tick1_67 (by decide) ?_
        refine xistore (lv' := [(9, .int (nI 0)), (7, .long (lN 0)), (6, .int (nI (mostN K p))), (5, .int (nI (lotN (mixI sd tt)))), (4, .int (nI p)), (3, .int (mixI sd tt)), (0, .ref (b 0)), (1, .ref (b j)), (2, .int tt)]) C dX6_tick1_68 (by decide) rfl ?_
        have LP70 : ∀ (fu70 : Nat) (i : Nat) (hi : i ≤ mostN K p + 1), mostN K p + 1 - i < fu70 → XW X 0 0 (WM b t I F) [(0, .ref (b 0)), (1, .ref (b j)), (2, .int tt), (3, .int (mixI sd tt)), (4, .int (nI p)), (5, .int (nI (lotN (mixI sd tt)))), (6, .int (nI (mostN K p))), (7, .long (lN (sm (waN K f p) i))), (9, .int (nI i))] 70 [] := by
          intro fu70
          induction fu70 with
          | zero => intro i hi hm70; exact absurd hm70 (Nat.not_lt_zero _)
          | succ fu70 ih70 =>
            intro i hi hm70
            refine xiload C 8 rfl dX6_tick1_70 ?_
            refine xiload C 6 rfl dX6_tick1_72 ?_
            refine xicmp_gtN C 97 dX6_tick1_74 (by decide) (by omega) (by omega) (fun h74 => ?_) (fun h74 => ?_)
            ·
              refine xlocals (lv' := [(0, .ref (b 0)), (1, .ref (b j)), (2, .int tt), (3, .int (mixI sd tt)), (4, .int (nI p)), (5, .int (nI (lotN (mixI sd tt)))), (6, .int (nI (mostN K p))), (7, .long (lN (sm (whN K f p) (mostN K p + 1)))), (9, .int (nI i))]) (by rw [show i = mostN K p + 1 by omega, sum_noh hW hp]) ?_
              refine xaload_n C 0 rfl dX6_tick1_97 ?_
              refine gX6_90K C hK dX6_tick1_98 ?_
              refine xiconst (v := nI 2) C dX6_tick1_101 (by decide) ?_
              refine xicmp_neN C 120 dX6_tick1_102 (by decide) (by omega) (by omega) (fun h102 => ?_) (fun h102 => ?_)
              ·
                refine xiconst (v := nI 0) C dX6_tick1_120 (by decide) ?_
                refine xistore (lv' := [(9, .int (nI 0)), (0, .ref (b 0)), (1, .ref (b j)), (2, .int tt), (3, .int (mixI sd tt)), (4, .int (nI p)), (5, .int (nI (lotN (mixI sd tt)))), (6, .int (nI (mostN K p))), (7, .long (lN (sm (whN K f p) (mostN K p + 1))))]) C dX6_tick1_121 (by decide) rfl ?_
                refine xlconst (v := lN 0) C dX6_tick1_123 (by decide) ?_
                refine xlstore (lv' := [(10, .long (lN 0)), (9, .int (nI 0)), (0, .ref (b 0)), (1, .ref (b j)), (2, .int tt), (3, .int (mixI sd tt)), (4, .int (nI p)), (5, .int (nI (lotN (mixI sd tt)))), (6, .int (nI (mostN K p))), (7, .long (lN (sm (whN K f p) (mostN K p + 1))))]) C dX6_tick1_124 (by decide) rfl ?_
                refine xiconst (v := nI 0) C dX6_tick1_126 (by decide) ?_
                refine xistore (lv' := [(12, .int (nI 0)), (10, .long (lN 0)), (9, .int (nI 0)), (0, .ref (b 0)), (1, .ref (b j)), (2, .int tt), (3, .int (mixI sd tt)), (4, .int (nI p)), (5, .int (nI (lotN (mixI sd tt)))), (6, .int (nI (mostN K p))), (7, .long (lN (sm (whN K f p) (mostN K p + 1))))]) C dX6_tick1_127 (by decide) rfl ?_
                have LP129 : ∀ (fu129 : Nat) (i : Nat) (hi : i ≤ mostN K p + 1) (hno : ∀ x, x < i → ¬ lotN (mixI sd tt) * sm (whN K f p) (mostN K p + 1) < 65536 * sm (whN K f p) (x + 1)) (hz : ¬ lotN (mixI sd tt) * sm (whN K f p) (mostN K p + 1) < 65536 * sm (whN K f p) i), mostN K p + 1 - i < fu129 → XW X 0 0 (WM b t I F) [(0, .ref (b 0)), (1, .ref (b j)), (2, .int tt), (3, .int (mixI sd tt)), (4, .int (nI p)), (5, .int (nI (lotN (mixI sd tt)))), (6, .int (nI (mostN K p))), (7, .long (lN (sm (whN K f p) (mostN K p + 1)))), (9, .int (nI 0)), (10, .long (lN (sm (whN K f p) i))), (12, .int (nI i))] 129 [] := by
                  intro fu129
                  induction fu129 with
                  | zero => intro i hi hno hz hm129; exact absurd hm129 (Nat.not_lt_zero _)
                  | succ fu129 ih129 =>
                    intro i hi hno hz hm129
                    refine xiload C 10 rfl dX6_tick1_129 ?_
                    refine xiload C 6 rfl dX6_tick1_131 ?_
                    refine xicmp_gtN C 224 dX6_tick1_133 (by decide) (by omega) (by omega) (fun h133 => ?_) (fun h133 => ?_)
                    ·
                      refine xiconst (v := nI 0) C dX6_tick1_224 (by decide) ?_
                      exact xret C hR (by rfl) dX6_tick1_225 (⟨_, rfl, by rw [bn_f (P := chgP K sd f tt) (fun q => q (by rw [← epl]; exact ch_none hno (by omega)))], F, rfl, fun _ _ => rfl, tk_ra hS (ech.trans (ch_none hno (by omega))) epl⟩)
                    ·
                      refine xiload C 8 rfl dX6_tick1_136 ?_
                      refine xif_eqN C 148 dX6_tick1_138 (by decide) (by omega) (fun h138 => ?_) (fun h138 => ?_)
                      ·
                        refine xiload C 10 rfl dX6_tick1_148 ?_
                        refine xtopi (y := nI (nohN K p i)) (congrArg nI (noh_n (by omega))) ?_
                        refine xistore (lv' := [(13, .int (nI (nohN K p i))), (0, .ref (b 0)), (1, .ref (b j)), (2, .int tt), (3, .int (mixI sd tt)), (4, .int (nI p)), (5, .int (nI (lotN (mixI sd tt)))), (6, .int (nI (mostN K p))), (7, .long (lN (sm (whN K f p) (mostN K p + 1)))), (9, .int (nI 0)), (10, .long (lN (sm (whN K f p) i))), (12, .int (nI i))]) C dX6_tick1_150 (by decide) rfl ?_
                        refine xaload_n C 1 rfl dX6_tick1_152 ?_
                        refine xaload_n C 2 rfl dX6_tick1_153 ?_
                        refine xiload C 5 rfl dX6_tick1_154 ?_
                        refine xiload C 0 rfl dX6_tick1_156 ?_
                        refine xcVR C (c_X6_weightAt hK hW j h8 hj hS p hp (nohN K p i) (noh_m (show i ≤ mostN K p by omega)) (hh)) yk_X6_weightAt 0 rfl rfl xml_X6_116 ⟨⟨Nat.le_of_ble_eq_true rfl, Nat.le_of_ble_eq_true rfl⟩, ⟨rfl, rfl⟩, ⟨Nat.zero_le _, Nat.zero_le _⟩⟩ rfl (Nat.le_of_ble_eq_true rfl) dX6_tick1_158 ?_
                        refine xlstore (lv' := [(14, .long (lN (waN K f p (nohN K p i)))), (13, .int (nI (nohN K p i))), (0, .ref (b 0)), (1, .ref (b j)), (2, .int tt), (3, .int (mixI sd tt)), (4, .int (nI p)), (5, .int (nI (lotN (mixI sd tt)))), (6, .int (nI (mostN K p))), (7, .long (lN (sm (whN K f p) (mostN K p + 1)))), (9, .int (nI 0)), (10, .long (lN (sm (whN K f p) i))), (12, .int (nI i))]) C dX6_tick1_161 (by decide) rfl ?_
                        refine xlload C 11 rfl dX6_tick1_163 ?_
                        refine xlload C 0 rfl dX6_tick1_165 ?_
                        refine xladdN C dX6_tick1_167 ?_
                        refine xtopl (y := lN (sm (whN K f p) (i + 1))) (rfl) ?_
                        refine xlstore (lv' := [(10, .long (lN (sm (whN K f p) (i + 1)))), (14, .long (lN (waN K f p (nohN K p i)))), (13, .int (nI (nohN K p i))), (0, .ref (b 0)), (1, .ref (b j)), (2, .int tt), (3, .int (mixI sd tt)), (4, .int (nI p)), (5, .int (nI (lotN (mixI sd tt)))), (6, .int (nI (mostN K p))), (7, .long (lN (sm (whN K f p) (mostN K p + 1)))), (9, .int (nI 0)), (12, .int (nI i))]) C dX6_tick1_168 (by decide) rfl ?_
                        refine xlload C 1 rfl dX6_tick1_170 ?_
                        refine xlconst (v := lN 0) C dX6_tick1_172 (by decide) ?_
                        refine xlcmp_le C 218 dX6_tick1_173 dX6_tick1_174 (by decide) (by have := waN_le hW f p (nohN K p i); omega) (by decide) (fun h174 => ?_) (fun h174 => ?_)
                        ·
                          have h174n : ¬ lotN (mixI sd tt) * sm (whN K f p) (mostN K p + 1) < 65536 * sm (whN K f p) (i + 1) := by rw [show sm (whN K f p) (i + 1) = sm (whN K f p) i + waN K f p (nohN K p i) from rfl, show waN K f p (nohN K p i) = 0 by omega, Nat.add_zero]; exact hz
                          refine xiincN (lv' := [(12, .int (nI (i + 1))), (10, .long (lN (sm (whN K f p) (i + 1)))), (14, .long (lN (waN K f p (nohN K p i)))), (13, .int (nI (nohN K p i))), (0, .ref (b 0)), (1, .ref (b j)), (2, .int tt), (3, .int (mixI sd tt)), (4, .int (nI p)), (5, .int (nI (lotN (mixI sd tt)))), (6, .int (nI (mostN K p))), (7, .long (lN (sm (whN K f p) (mostN K p + 1)))), (9, .int (nI 0))]) C 12 rfl dX6_tick1_218 (by decide) rfl ?_
                          refine xgoto C 129 dX6_tick1_221 (by decide) ?_
                          refine xsub [4, 5, 6, 7, 8, 9, 10, 11, 12, 1, 0] rfl ?_
                          exact ih129 (i + 1) (by omega) (lt_s hno h174n) h174n (by omega)
                        ·
                          refine xiload C 8 rfl dX6_tick1_177 ?_
                          refine xi2lN C (by omega) dX6_tick1_179 ?_
                          refine xlload C 10 rfl dX6_tick1_180 ?_
                          refine xlmulN C dX6_tick1_182 ?_
                          refine xldc2 C dX6_tick1_183 xcn_X6_120 ?_
                          refine xtopl (y := lN 65536) (by decide +kernel) ?_
                          refine xlload C 0 rfl dX6_tick1_186 ?_
                          refine xlmulN C dX6_tick1_188 ?_
                          refine xlcmp_ge C 218 dX6_tick1_189 dX6_tick1_190 (by decide) (whN_lt1 hW hp hl16) (whN_lt2 hW hp (by omega)) (fun h190 => ?_) (fun h190 => ?_)
                          ·
                            refine xiincN (lv' := [(12, .int (nI (i + 1))), (10, .long (lN (sm (whN K f p) (i + 1)))), (14, .long (lN (waN K f p (nohN K p i)))), (13, .int (nI (nohN K p i))), (0, .ref (b 0)), (1, .ref (b j)), (2, .int tt), (3, .int (mixI sd tt)), (4, .int (nI p)), (5, .int (nI (lotN (mixI sd tt)))), (6, .int (nI (mostN K p))), (7, .long (lN (sm (whN K f p) (mostN K p + 1)))), (9, .int (nI 0))]) C 12 rfl dX6_tick1_218 (by decide) rfl ?_
                            refine xgoto C 129 dX6_tick1_221 (by decide) ?_
                            refine xsub [4, 5, 6, 7, 8, 9, 10, 11, 12, 1, 0] rfl ?_
                            exact ih129 (i + 1) (by omega) (lt_s hno (Nat.not_lt.mpr h190)) (Nat.not_lt.mpr h190) (by omega)
                          ·
                            have hcs : chN K f p (lotN (mixI sd tt)) = nohN K p i := chN_some (by omega) (by omega) hno
                            have hx5 : nohN K p i ≤ 5 := nohN_le (by have := mostN_le hW hp; omega)
                            refine xaload_n C 4 rfl dX6_tick1_193 ?_
                            refine xiload C 7 rfl dX6_tick1_194 ?_
                            refine ma_st C hW j h8 hj hS p (by omega) dX6_tick1_196 ?_
                            have fb196 := (hS p (by omega)).2
                            refine xiload C 2 rfl dX6_tick1_197 ?_
                            refine xicmp_eqN C 206 dX6_tick1_199 (by decide) (by omega) (by omega) (fun h199 => ?_) (fun h199 => ?_)
                            ·
                              refine xiconst (v := nI 0) C dX6_tick1_206 (by decide) ?_
                              refine xistore (lv' := [(16, .int (nI 0)), (10, .long (lN (sm (whN K f p) (i + 1)))), (14, .long (lN (waN K f p (nohN K p i)))), (13, .int (nI (nohN K p i))), (0, .ref (b 0)), (1, .ref (b j)), (2, .int tt), (3, .int (mixI sd tt)), (4, .int (nI p)), (5, .int (nI (lotN (mixI sd tt)))), (6, .int (nI (mostN K p))), (7, .long (lN (sm (whN K f p) (mostN K p + 1)))), (9, .int (nI 0)), (12, .int (nI i))]) C dX6_tick1_207 (by decide) rfl ?_
                              refine xaload_n C 5 rfl dX6_tick1_209 ?_
                              refine xiload C 8 rfl dX6_tick1_210 ?_
                              refine xiload C 3 rfl dX6_tick1_212 ?_
                              refine ms_st C j h8 hj p (by omega) dX6_tick1_214 ?_
                              obtain ⟨FA, eFA⟩ : ∃ z : Nat → Nat → Int32, z = va_up F j (upd (F j) p (nI (nohN K p i))) := ⟨_, rfl⟩
                              refine xworld (ws' := WM b t I FA) (by rw [eFA]) ?_
                              have hXA : ∀ q, q ≠ j → FA q = F q := fun q hq => by rw [eFA, va_up_ne _ _ hq]
                              have hSA : RA (kn K) (FA j) (tkN K sd f tt) := by rw [eFA, va_up_self]; exact tk_up hS (ech.trans hcs) hx5 epl
                              refine xiload C 0 rfl dX6_tick1_215 ?_
                              exact xret C hR (by rfl) dX6_tick1_217 (⟨_, rfl, by rw [bn_f (P := chgP K sd f tt) (fun q => q (by rw [← epl]; exact hcs.trans h199.symm))], FA, rfl, hXA, hSA⟩)
                            ·
                              refine xiconst (v := nI 1) C dX6_tick1_202 (by decide) ?_
                              refine xgoto C 207 dX6_tick1_203 (by decide) ?_
                              refine xistore (lv' := [(16, .int (nI 1)), (10, .long (lN (sm (whN K f p) (i + 1)))), (14, .long (lN (waN K f p (nohN K p i)))), (13, .int (nI (nohN K p i))), (0, .ref (b 0)), (1, .ref (b j)), (2, .int tt), (3, .int (mixI sd tt)), (4, .int (nI p)), (5, .int (nI (lotN (mixI sd tt)))), (6, .int (nI (mostN K p))), (7, .long (lN (sm (whN K f p) (mostN K p + 1)))), (9, .int (nI 0)), (12, .int (nI i))]) C dX6_tick1_207 (by decide) rfl ?_
                              refine xaload_n C 5 rfl dX6_tick1_209 ?_
                              refine xiload C 8 rfl dX6_tick1_210 ?_
                              refine xiload C 3 rfl dX6_tick1_212 ?_
                              refine ms_st C j h8 hj p (by omega) dX6_tick1_214 ?_
                              obtain ⟨FA, eFA⟩ : ∃ z : Nat → Nat → Int32, z = va_up F j (upd (F j) p (nI (nohN K p i))) := ⟨_, rfl⟩
                              refine xworld (ws' := WM b t I FA) (by rw [eFA]) ?_
                              have hXA : ∀ q, q ≠ j → FA q = F q := fun q hq => by rw [eFA, va_up_ne _ _ hq]
                              have hSA : RA (kn K) (FA j) (tkN K sd f tt) := by rw [eFA, va_up_self]; exact tk_up hS (ech.trans hcs) hx5 epl
                              refine xiload C 0 rfl dX6_tick1_215 ?_
                              exact xret C hR (by rfl) dX6_tick1_217 (⟨_, rfl, by rw [bn_t (P := chgP K sd f tt) (fun q => by rw [← epl] at q; exact h199 (q.symm.trans hcs))], FA, rfl, hXA, hSA⟩)
                      · exact absurd rfl h138
                refine xsub [3, 4, 5, 6, 7, 8, 9, 10, 2, 1, 0] rfl ?_
                exact LP129 _ 0 (Nat.zero_le _) (fun x h => absurd h (Nat.not_lt_zero _)) (by show ¬ _ < 65536 * 0; omega) (Nat.lt_succ_self _)
              ·
                refine xaload_n C 0 rfl dX6_tick1_105 ?_
                refine gX6_13 C dX6_tick1_106 ?_
                refine xiload C 4 rfl dX6_tick1_109 ?_
                refine ma_si C hK hW p (by omega) dX6_tick1_111 ?_
                have fb111 := (hW.si1 (by omega))
                refine xiconst (v := nI 1) C dX6_tick1_112 (by decide) ?_
                refine xicmp_neN C 120 dX6_tick1_113 (by decide) (by omega) (by omega) (fun h113 => ?_) (fun h113 => ?_)
                ·
                  refine xiconst (v := nI 0) C dX6_tick1_120 (by decide) ?_
                  refine xistore (lv' := [(9, .int (nI 0)), (0, .ref (b 0)), (1, .ref (b j)), (2, .int tt), (3, .int (mixI sd tt)), (4, .int (nI p)), (5, .int (nI (lotN (mixI sd tt)))), (6, .int (nI (mostN K p))), (7, .long (lN (sm (whN K f p) (mostN K p + 1))))]) C dX6_tick1_121 (by decide) rfl ?_
                  refine xlconst (v := lN 0) C dX6_tick1_123 (by decide) ?_
                  refine xlstore (lv' := [(10, .long (lN 0)), (9, .int (nI 0)), (0, .ref (b 0)), (1, .ref (b j)), (2, .int tt), (3, .int (mixI sd tt)), (4, .int (nI p)), (5, .int (nI (lotN (mixI sd tt)))), (6, .int (nI (mostN K p))), (7, .long (lN (sm (whN K f p) (mostN K p + 1))))]) C dX6_tick1_124 (by decide) rfl ?_
                  refine xiconst (v := nI 0) C dX6_tick1_126 (by decide) ?_
                  refine xistore (lv' := [(12, .int (nI 0)), (10, .long (lN 0)), (9, .int (nI 0)), (0, .ref (b 0)), (1, .ref (b j)), (2, .int tt), (3, .int (mixI sd tt)), (4, .int (nI p)), (5, .int (nI (lotN (mixI sd tt)))), (6, .int (nI (mostN K p))), (7, .long (lN (sm (whN K f p) (mostN K p + 1))))]) C dX6_tick1_127 (by decide) rfl ?_
                  have LP129 : ∀ (fu129 : Nat) (i : Nat) (hi : i ≤ mostN K p + 1) (hno : ∀ x, x < i → ¬ lotN (mixI sd tt) * sm (whN K f p) (mostN K p + 1) < 65536 * sm (whN K f p) (x + 1)) (hz : ¬ lotN (mixI sd tt) * sm (whN K f p) (mostN K p + 1) < 65536 * sm (whN K f p) i), mostN K p + 1 - i < fu129 → XW X 0 0 (WM b t I F) [(0, .ref (b 0)), (1, .ref (b j)), (2, .int tt), (3, .int (mixI sd tt)), (4, .int (nI p)), (5, .int (nI (lotN (mixI sd tt)))), (6, .int (nI (mostN K p))), (7, .long (lN (sm (whN K f p) (mostN K p + 1)))), (9, .int (nI 0)), (10, .long (lN (sm (whN K f p) i))), (12, .int (nI i))] 129 [] := by
                    intro fu129
                    induction fu129 with
                    | zero => intro i hi hno hz hm129; exact absurd hm129 (Nat.not_lt_zero _)
                    | succ fu129 ih129 =>
                      intro i hi hno hz hm129
                      refine xiload C 10 rfl dX6_tick1_129 ?_
                      refine xiload C 6 rfl dX6_tick1_131 ?_
                      refine xicmp_gtN C 224 dX6_tick1_133 (by decide) (by omega) (by omega) (fun h133 => ?_) (fun h133 => ?_)
                      ·
                        refine xiconst (v := nI 0) C dX6_tick1_224 (by decide) ?_
                        exact xret C hR (by rfl) dX6_tick1_225 (⟨_, rfl, by rw [bn_f (P := chgP K sd f tt) (fun q => q (by rw [← epl]; exact ch_none hno (by omega)))], F, rfl, fun _ _ => rfl, tk_ra hS (ech.trans (ch_none hno (by omega))) epl⟩)
                      ·
                        refine xiload C 8 rfl dX6_tick1_136 ?_
                        refine xif_eqN C 148 dX6_tick1_138 (by decide) (by omega) (fun h138 => ?_) (fun h138 => ?_)
                        ·
                          refine xiload C 10 rfl dX6_tick1_148 ?_
                          refine xtopi (y := nI (nohN K p i)) (congrArg nI (noh_n (by omega))) ?_
                          refine xistore (lv' := [(13, .int (nI (nohN K p i))), (0, .ref (b 0)), (1, .ref (b j)), (2, .int tt), (3, .int (mixI sd tt)), (4, .int (nI p)), (5, .int (nI (lotN (mixI sd tt)))), (6, .int (nI (mostN K p))), (7, .long (lN (sm (whN K f p) (mostN K p + 1)))), (9, .int (nI 0)), (10, .long (lN (sm (whN K f p) i))), (12, .int (nI i))]) C dX6_tick1_150 (by decide) rfl ?_
                          refine xaload_n C 1 rfl dX6_tick1_152 ?_
                          refine xaload_n C 2 rfl dX6_tick1_153 ?_
                          refine xiload C 5 rfl dX6_tick1_154 ?_
                          refine xiload C 0 rfl dX6_tick1_156 ?_
                          refine xcVR C (c_X6_weightAt hK hW j h8 hj hS p hp (nohN K p i) (noh_m (show i ≤ mostN K p by omega)) (hh)) yk_X6_weightAt 0 rfl rfl xml_X6_116 ⟨⟨Nat.le_of_ble_eq_true rfl, Nat.le_of_ble_eq_true rfl⟩, ⟨rfl, rfl⟩, ⟨Nat.zero_le _, Nat.zero_le _⟩⟩ rfl (Nat.le_of_ble_eq_true rfl) dX6_tick1_158 ?_
                          refine xlstore (lv' := [(14, .long (lN (waN K f p (nohN K p i)))), (13, .int (nI (nohN K p i))), (0, .ref (b 0)), (1, .ref (b j)), (2, .int tt), (3, .int (mixI sd tt)), (4, .int (nI p)), (5, .int (nI (lotN (mixI sd tt)))), (6, .int (nI (mostN K p))), (7, .long (lN (sm (whN K f p) (mostN K p + 1)))), (9, .int (nI 0)), (10, .long (lN (sm (whN K f p) i))), (12, .int (nI i))]) C dX6_tick1_161 (by decide) rfl ?_
                          refine xlload C 11 rfl dX6_tick1_163 ?_
                          refine xlload C 0 rfl dX6_tick1_165 ?_
                          refine xladdN C dX6_tick1_167 ?_
                          refine xtopl (y := lN (sm (whN K f p) (i + 1))) (rfl) ?_
                          refine xlstore (lv' := [(10, .long (lN (sm (whN K f p) (i + 1)))), (14, .long (lN (waN K f p (nohN K p i)))), (13, .int (nI (nohN K p i))), (0, .ref (b 0)), (1, .ref (b j)), (2, .int tt), (3, .int (mixI sd tt)), (4, .int (nI p)), (5, .int (nI (lotN (mixI sd tt)))), (6, .int (nI (mostN K p))), (7, .long (lN (sm (whN K f p) (mostN K p + 1)))), (9, .int (nI 0)), (12, .int (nI i))]) C dX6_tick1_168 (by decide) rfl ?_
                          refine xlload C 1 rfl dX6_tick1_170 ?_
                          refine xlconst (v := lN 0) C dX6_tick1_172 (by decide) ?_
                          refine xlcmp_le C 218 dX6_tick1_173 dX6_tick1_174 (by decide) (by have := waN_le hW f p (nohN K p i); omega) (by decide) (fun h174 => ?_) (fun h174 => ?_)
                          ·
                            have h174n : ¬ lotN (mixI sd tt) * sm (whN K f p) (mostN K p + 1) < 65536 * sm (whN K f p) (i + 1) := by rw [show sm (whN K f p) (i + 1) = sm (whN K f p) i + waN K f p (nohN K p i) from rfl, show waN K f p (nohN K p i) = 0 by omega, Nat.add_zero]; exact hz
                            refine xiincN (lv' := [(12, .int (nI (i + 1))), (10, .long (lN (sm (whN K f p) (i + 1)))), (14, .long (lN (waN K f p (nohN K p i)))), (13, .int (nI (nohN K p i))), (0, .ref (b 0)), (1, .ref (b j)), (2, .int tt), (3, .int (mixI sd tt)), (4, .int (nI p)), (5, .int (nI (lotN (mixI sd tt)))), (6, .int (nI (mostN K p))), (7, .long (lN (sm (whN K f p) (mostN K p + 1)))), (9, .int (nI 0))]) C 12 rfl dX6_tick1_218 (by decide) rfl ?_
                            refine xgoto C 129 dX6_tick1_221 (by decide) ?_
                            refine xsub [4, 5, 6, 7, 8, 9, 10, 11, 12, 1, 0] rfl ?_
                            exact ih129 (i + 1) (by omega) (lt_s hno h174n) h174n (by omega)
                          ·
                            refine xiload C 8 rfl dX6_tick1_177 ?_
                            refine xi2lN C (by omega) dX6_tick1_179 ?_
                            refine xlload C 10 rfl dX6_tick1_180 ?_
                            refine xlmulN C dX6_tick1_182 ?_
                            refine xldc2 C dX6_tick1_183 xcn_X6_120 ?_
                            refine xtopl (y := lN 65536) (by decide +kernel) ?_
                            refine xlload C 0 rfl dX6_tick1_186 ?_
                            refine xlmulN C dX6_tick1_188 ?_
                            refine xlcmp_ge C 218 dX6_tick1_189 dX6_tick1_190 (by decide) (whN_lt1 hW hp hl16) (whN_lt2 hW hp (by omega)) (fun h190 => ?_) (fun h190 => ?_)
                            ·
                              refine xiincN (lv' := [(12, .int (nI (i + 1))), (10, .long (lN (sm (whN K f p) (i + 1)))), (14, .long (lN (waN K f p (nohN K p i)))), (13, .int (nI (nohN K p i))), (0, .ref (b 0)), (1, .ref (b j)), (2, .int tt), (3, .int (mixI sd tt)), (4, .int (nI p)), (5, .int (nI (lotN (mixI sd tt)))), (6, .int (nI (mostN K p))), (7, .long (lN (sm (whN K f p) (mostN K p + 1)))), (9, .int (nI 0))]) C 12 rfl dX6_tick1_218 (by decide) rfl ?_
                              refine xgoto C 129 dX6_tick1_221 (by decide) ?_
                              refine xsub [4, 5, 6, 7, 8, 9, 10, 11, 12, 1, 0] rfl ?_
                              exact ih129 (i + 1) (by omega) (lt_s hno (Nat.not_lt.mpr h190)) (Nat.not_lt.mpr h190) (by omega)
                            ·
                              have hcs : chN K f p (lotN (mixI sd tt)) = nohN K p i := chN_some (by omega) (by omega) hno
                              have hx5 : nohN K p i ≤ 5 := nohN_le (by have := mostN_le hW hp; omega)
                              refine xaload_n C 4 rfl dX6_tick1_193 ?_
                              refine xiload C 7 rfl dX6_tick1_194 ?_
                              refine ma_st C hW j h8 hj hS p (by omega) dX6_tick1_196 ?_
                              have fb196 := (hS p (by omega)).2
                              refine xiload C 2 rfl dX6_tick1_197 ?_
                              refine xicmp_eqN C 206 dX6_tick1_199 (by decide) (by omega) (by omega) (fun h199 => ?_) (fun h199 => ?_)
                              ·
                                refine xiconst (v := nI 0) C dX6_tick1_206 (by decide) ?_
                                refine xistore (lv' := [(16, .int (nI 0)), (10, .long (lN (sm (whN K f p) (i + 1)))), (14, .long (lN (waN K f p (nohN K p i)))), (13, .int (nI (nohN K p i))), (0, .ref (b 0)), (1, .ref (b j)), (2, .int tt), (3, .int (mixI sd tt)), (4, .int (nI p)), (5, .int (nI (lotN (mixI sd tt)))), (6, .int (nI (mostN K p))), (7, .long (lN (sm (whN K f p) (mostN K p + 1)))), (9, .int (nI 0)), (12, .int (nI i))]) C dX6_tick1_207 (by decide) rfl ?_
                                refine xaload_n C 5 rfl dX6_tick1_209 ?_
                                refine xiload C 8 rfl dX6_tick1_210 ?_
                                refine xiload C 3 rfl dX6_tick1_212 ?_
                                refine ms_st C j h8 hj p (by omega) dX6_tick1_214 ?_
                                obtain ⟨FA, eFA⟩ : ∃ z : Nat → Nat → Int32, z = va_up F j (upd (F j) p (nI (nohN K p i))) := ⟨_, rfl⟩
                                refine xworld (ws' := WM b t I FA) (by rw [eFA]) ?_
                                have hXA : ∀ q, q ≠ j → FA q = F q := fun q hq => by rw [eFA, va_up_ne _ _ hq]
                                have hSA : RA (kn K) (FA j) (tkN K sd f tt) := by rw [eFA, va_up_self]; exact tk_up hS (ech.trans hcs) hx5 epl
                                refine xiload C 0 rfl dX6_tick1_215 ?_
                                exact xret C hR (by rfl) dX6_tick1_217 (⟨_, rfl, by rw [bn_f (P := chgP K sd f tt) (fun q => q (by rw [← epl]; exact hcs.trans h199.symm))], FA, rfl, hXA, hSA⟩)
                              ·
                                refine xiconst (v := nI 1) C dX6_tick1_202 (by decide) ?_
                                refine xgoto C 207 dX6_tick1_203 (by decide) ?_
                                refine xistore (lv' := [(16, .int (nI 1)), (10, .long (lN (sm (whN K f p) (i + 1)))), (14, .long (lN (waN K f p (nohN K p i)))), (13, .int (nI (nohN K p i))), (0, .ref (b 0)), (1, .ref (b j)), (2, .int tt), (3, .int (mixI sd tt)), (4, .int (nI p)), (5, .int (nI (lotN (mixI sd tt)))), (6, .int (nI (mostN K p))), (7, .long (lN (sm (whN K f p) (mostN K p + 1)))), (9, .int (nI 0)), (12, .int (nI i))]) C dX6_tick1_207 (by decide) rfl ?_
                                refine xaload_n C 5 rfl dX6_tick1_209 ?_
                                refine xiload C 8 rfl dX6_tick1_210 ?_
                                refine xiload C 3 rfl dX6_tick1_212 ?_
                                refine ms_st C j h8 hj p (by omega) dX6_tick1_214 ?_
                                obtain ⟨FA, eFA⟩ : ∃ z : Nat → Nat → Int32, z = va_up F j (upd (F j) p (nI (nohN K p i))) := ⟨_, rfl⟩
                                refine xworld (ws' := WM b t I FA) (by rw [eFA]) ?_
                                have hXA : ∀ q, q ≠ j → FA q = F q := fun q hq => by rw [eFA, va_up_ne _ _ hq]
                                have hSA : RA (kn K) (FA j) (tkN K sd f tt) := by rw [eFA, va_up_self]; exact tk_up hS (ech.trans hcs) hx5 epl
                                refine xiload C 0 rfl dX6_tick1_215 ?_
                                exact xret C hR (by rfl) dX6_tick1_217 (⟨_, rfl, by rw [bn_t (P := chgP K sd f tt) (fun q => by rw [← epl] at q; exact h199 (q.symm.trans hcs))], FA, rfl, hXA, hSA⟩)
                        · exact absurd rfl h138
                  refine xsub [3, 4, 5, 6, 7, 8, 9, 10, 2, 1, 0] rfl ?_
                  exact LP129 _ 0 (Nat.zero_le _) (fun x h => absurd h (Nat.not_lt_zero _)) (by show ¬ _ < 65536 * 0; omega) (Nat.lt_succ_self _)
                ·
                  refine xiconst (v := nI 1) C dX6_tick1_116 (by decide) ?_
                  refine xgoto C 121 dX6_tick1_117 (by decide) ?_
                  refine xistore (lv' := [(9, .int (nI 1)), (0, .ref (b 0)), (1, .ref (b j)), (2, .int tt), (3, .int (mixI sd tt)), (4, .int (nI p)), (5, .int (nI (lotN (mixI sd tt)))), (6, .int (nI (mostN K p))), (7, .long (lN (sm (whN K f p) (mostN K p + 1))))]) C dX6_tick1_121 (by decide) rfl ?_
                  refine xlconst (v := lN 0) C dX6_tick1_123 (by decide) ?_
                  refine xlstore (lv' := [(10, .long (lN 0)), (9, .int (nI 1)), (0, .ref (b 0)), (1, .ref (b j)), (2, .int tt), (3, .int (mixI sd tt)), (4, .int (nI p)), (5, .int (nI (lotN (mixI sd tt)))), (6, .int (nI (mostN K p))), (7, .long (lN (sm (whN K f p) (mostN K p + 1))))]) C dX6_tick1_124 (by decide) rfl ?_
                  refine xiconst (v := nI 0) C dX6_tick1_126 (by decide) ?_
                  refine xistore (lv' := [(12, .int (nI 0)), (10, .long (lN 0)), (9, .int (nI 1)), (0, .ref (b 0)), (1, .ref (b j)), (2, .int tt), (3, .int (mixI sd tt)), (4, .int (nI p)), (5, .int (nI (lotN (mixI sd tt)))), (6, .int (nI (mostN K p))), (7, .long (lN (sm (whN K f p) (mostN K p + 1))))]) C dX6_tick1_127 (by decide) rfl ?_
                  have LP129 : ∀ (fu129 : Nat) (i : Nat) (hi : i ≤ mostN K p + 1) (hno : ∀ x, x < i → ¬ lotN (mixI sd tt) * sm (whN K f p) (mostN K p + 1) < 65536 * sm (whN K f p) (x + 1)) (hz : ¬ lotN (mixI sd tt) * sm (whN K f p) (mostN K p + 1) < 65536 * sm (whN K f p) i), mostN K p + 1 - i < fu129 → XW X 0 0 (WM b t I F) [(0, .ref (b 0)), (1, .ref (b j)), (2, .int tt), (3, .int (mixI sd tt)), (4, .int (nI p)), (5, .int (nI (lotN (mixI sd tt)))), (6, .int (nI (mostN K p))), (7, .long (lN (sm (whN K f p) (mostN K p + 1)))), (9, .int (nI 1)), (10, .long (lN (sm (whN K f p) i))), (12, .int (nI i))] 129 [] := by
                    intro fu129
                    induction fu129 with
                    | zero => intro i hi hno hz hm129; exact absurd hm129 (Nat.not_lt_zero _)
                    | succ fu129 ih129 =>
                      intro i hi hno hz hm129
                      refine xiload C 10 rfl dX6_tick1_129 ?_
                      refine xiload C 6 rfl dX6_tick1_131 ?_
                      refine xicmp_gtN C 224 dX6_tick1_133 (by decide) (by omega) (by omega) (fun h133 => ?_) (fun h133 => ?_)
                      ·
                        refine xiconst (v := nI 0) C dX6_tick1_224 (by decide) ?_
                        exact xret C hR (by rfl) dX6_tick1_225 (⟨_, rfl, by rw [bn_f (P := chgP K sd f tt) (fun q => q (by rw [← epl]; exact ch_none hno (by omega)))], F, rfl, fun _ _ => rfl, tk_ra hS (ech.trans (ch_none hno (by omega))) epl⟩)
                      ·
                        refine xiload C 8 rfl dX6_tick1_136 ?_
                        refine xif_eqN C 148 dX6_tick1_138 (by decide) (by omega) (fun h138 => ?_) (fun h138 => ?_)
                        · exact absurd h138 (by decide)
                        ·
                          refine xiconst (v := nI 1) C dX6_tick1_141 (by decide) ?_
                          refine xiload C 10 rfl dX6_tick1_142 ?_
                          refine xisubN C (by have := most_n (K := K) (p := p) (by omega); omega) dX6_tick1_144 ?_
                          refine xgoto C 150 dX6_tick1_145 (by decide) ?_
                          refine xtopi (y := nI (nohN K p i)) (congrArg nI (noh_t (by omega) (by omega))) ?_
                          refine xistore (lv' := [(13, .int (nI (nohN K p i))), (0, .ref (b 0)), (1, .ref (b j)), (2, .int tt), (3, .int (mixI sd tt)), (4, .int (nI p)), (5, .int (nI (lotN (mixI sd tt)))), (6, .int (nI (mostN K p))), (7, .long (lN (sm (whN K f p) (mostN K p + 1)))), (9, .int (nI 1)), (10, .long (lN (sm (whN K f p) i))), (12, .int (nI i))]) C dX6_tick1_150 (by decide) rfl ?_
                          refine xaload_n C 1 rfl dX6_tick1_152 ?_
                          refine xaload_n C 2 rfl dX6_tick1_153 ?_
                          refine xiload C 5 rfl dX6_tick1_154 ?_
                          refine xiload C 0 rfl dX6_tick1_156 ?_
                          refine xcVR C (c_X6_weightAt hK hW j h8 hj hS p hp (nohN K p i) (noh_m (show i ≤ mostN K p by omega)) (hh)) yk_X6_weightAt 0 rfl rfl xml_X6_116 ⟨⟨Nat.le_of_ble_eq_true rfl, Nat.le_of_ble_eq_true rfl⟩, ⟨rfl, rfl⟩, ⟨Nat.zero_le _, Nat.zero_le _⟩⟩ rfl (Nat.le_of_ble_eq_true rfl) dX6_tick1_158 ?_
                          refine xlstore (lv' := [(14, .long (lN (waN K f p (nohN K p i)))), (13, .int (nI (nohN K p i))), (0, .ref (b 0)), (1, .ref (b j)), (2, .int tt), (3, .int (mixI sd tt)), (4, .int (nI p)), (5, .int (nI (lotN (mixI sd tt)))), (6, .int (nI (mostN K p))), (7, .long (lN (sm (whN K f p) (mostN K p + 1)))), (9, .int (nI 1)), (10, .long (lN (sm (whN K f p) i))), (12, .int (nI i))]) C dX6_tick1_161 (by decide) rfl ?_
                          refine xlload C 11 rfl dX6_tick1_163 ?_
                          refine xlload C 0 rfl dX6_tick1_165 ?_
                          refine xladdN C dX6_tick1_167 ?_
                          refine xtopl (y := lN (sm (whN K f p) (i + 1))) (rfl) ?_
                          refine xlstore (lv' := [(10, .long (lN (sm (whN K f p) (i + 1)))), (14, .long (lN (waN K f p (nohN K p i)))), (13, .int (nI (nohN K p i))), (0, .ref (b 0)), (1, .ref (b j)), (2, .int tt), (3, .int (mixI sd tt)), (4, .int (nI p)), (5, .int (nI (lotN (mixI sd tt)))), (6, .int (nI (mostN K p))), (7, .long (lN (sm (whN K f p) (mostN K p + 1)))), (9, .int (nI 1)), (12, .int (nI i))]) C dX6_tick1_168 (by decide) rfl ?_
                          refine xlload C 1 rfl dX6_tick1_170 ?_
                          refine xlconst (v := lN 0) C dX6_tick1_172 (by decide) ?_
                          refine xlcmp_le C 218 dX6_tick1_173 dX6_tick1_174 (by decide) (by have := waN_le hW f p (nohN K p i); omega) (by decide) (fun h174 => ?_) (fun h174 => ?_)
                          ·
                            have h174n : ¬ lotN (mixI sd tt) * sm (whN K f p) (mostN K p + 1) < 65536 * sm (whN K f p) (i + 1) := by rw [show sm (whN K f p) (i + 1) = sm (whN K f p) i + waN K f p (nohN K p i) from rfl, show waN K f p (nohN K p i) = 0 by omega, Nat.add_zero]; exact hz
                            refine xiincN (lv' := [(12, .int (nI (i + 1))), (10, .long (lN (sm (whN K f p) (i + 1)))), (14, .long (lN (waN K f p (nohN K p i)))), (13, .int (nI (nohN K p i))), (0, .ref (b 0)), (1, .ref (b j)), (2, .int tt), (3, .int (mixI sd tt)), (4, .int (nI p)), (5, .int (nI (lotN (mixI sd tt)))), (6, .int (nI (mostN K p))), (7, .long (lN (sm (whN K f p) (mostN K p + 1)))), (9, .int (nI 1))]) C 12 rfl dX6_tick1_218 (by decide) rfl ?_
                            refine xgoto C 129 dX6_tick1_221 (by decide) ?_
                            refine xsub [4, 5, 6, 7, 8, 9, 10, 11, 12, 1, 0] rfl ?_
                            exact ih129 (i + 1) (by omega) (lt_s hno h174n) h174n (by omega)
                          ·
                            refine xiload C 8 rfl dX6_tick1_177 ?_
                            refine xi2lN C (by omega) dX6_tick1_179 ?_
                            refine xlload C 10 rfl dX6_tick1_180 ?_
                            refine xlmulN C dX6_tick1_182 ?_
                            refine xldc2 C dX6_tick1_183 xcn_X6_120 ?_
                            refine xtopl (y := lN 65536) (by decide +kernel) ?_
                            refine xlload C 0 rfl dX6_tick1_186 ?_
                            refine xlmulN C dX6_tick1_188 ?_
                            refine xlcmp_ge C 218 dX6_tick1_189 dX6_tick1_190 (by decide) (whN_lt1 hW hp hl16) (whN_lt2 hW hp (by omega)) (fun h190 => ?_) (fun h190 => ?_)
                            ·
                              refine xiincN (lv' := [(12, .int (nI (i + 1))), (10, .long (lN (sm (whN K f p) (i + 1)))), (14, .long (lN (waN K f p (nohN K p i)))), (13, .int (nI (nohN K p i))), (0, .ref (b 0)), (1, .ref (b j)), (2, .int tt), (3, .int (mixI sd tt)), (4, .int (nI p)), (5, .int (nI (lotN (mixI sd tt)))), (6, .int (nI (mostN K p))), (7, .long (lN (sm (whN K f p) (mostN K p + 1)))), (9, .int (nI 1))]) C 12 rfl dX6_tick1_218 (by decide) rfl ?_
                              refine xgoto C 129 dX6_tick1_221 (by decide) ?_
                              refine xsub [4, 5, 6, 7, 8, 9, 10, 11, 12, 1, 0] rfl ?_
                              exact ih129 (i + 1) (by omega) (lt_s hno (Nat.not_lt.mpr h190)) (Nat.not_lt.mpr h190) (by omega)
                            ·
                              have hcs : chN K f p (lotN (mixI sd tt)) = nohN K p i := chN_some (by omega) (by omega) hno
                              have hx5 : nohN K p i ≤ 5 := nohN_le (by have := mostN_le hW hp; omega)
                              refine xaload_n C 4 rfl dX6_tick1_193 ?_
                              refine xiload C 7 rfl dX6_tick1_194 ?_
                              refine ma_st C hW j h8 hj hS p (by omega) dX6_tick1_196 ?_
                              have fb196 := (hS p (by omega)).2
                              refine xiload C 2 rfl dX6_tick1_197 ?_
                              refine xicmp_eqN C 206 dX6_tick1_199 (by decide) (by omega) (by omega) (fun h199 => ?_) (fun h199 => ?_)
                              ·
                                refine xiconst (v := nI 0) C dX6_tick1_206 (by decide) ?_
                                refine xistore (lv' := [(16, .int (nI 0)), (10, .long (lN (sm (whN K f p) (i + 1)))), (14, .long (lN (waN K f p (nohN K p i)))), (13, .int (nI (nohN K p i))), (0, .ref (b 0)), (1, .ref (b j)), (2, .int tt), (3, .int (mixI sd tt)), (4, .int (nI p)), (5, .int (nI (lotN (mixI sd tt)))), (6, .int (nI (mostN K p))), (7, .long (lN (sm (whN K f p) (mostN K p + 1)))), (9, .int (nI 1)), (12, .int (nI i))]) C dX6_tick1_207 (by decide) rfl ?_
                                refine xaload_n C 5 rfl dX6_tick1_209 ?_
                                refine xiload C 8 rfl dX6_tick1_210 ?_
                                refine xiload C 3 rfl dX6_tick1_212 ?_
                                refine ms_st C j h8 hj p (by omega) dX6_tick1_214 ?_
                                obtain ⟨FA, eFA⟩ : ∃ z : Nat → Nat → Int32, z = va_up F j (upd (F j) p (nI (nohN K p i))) := ⟨_, rfl⟩
                                refine xworld (ws' := WM b t I FA) (by rw [eFA]) ?_
                                have hXA : ∀ q, q ≠ j → FA q = F q := fun q hq => by rw [eFA, va_up_ne _ _ hq]
                                have hSA : RA (kn K) (FA j) (tkN K sd f tt) := by rw [eFA, va_up_self]; exact tk_up hS (ech.trans hcs) hx5 epl
                                refine xiload C 0 rfl dX6_tick1_215 ?_
                                exact xret C hR (by rfl) dX6_tick1_217 (⟨_, rfl, by rw [bn_f (P := chgP K sd f tt) (fun q => q (by rw [← epl]; exact hcs.trans h199.symm))], FA, rfl, hXA, hSA⟩)
                              ·
                                refine xiconst (v := nI 1) C dX6_tick1_202 (by decide) ?_
                                refine xgoto C 207 dX6_tick1_203 (by decide) ?_
                                refine xistore (lv' := [(16, .int (nI 1)), (10, .long (lN (sm (whN K f p) (i + 1)))), (14, .long (lN (waN K f p (nohN K p i)))), (13, .int (nI (nohN K p i))), (0, .ref (b 0)), (1, .ref (b j)), (2, .int tt), (3, .int (mixI sd tt)), (4, .int (nI p)), (5, .int (nI (lotN (mixI sd tt)))), (6, .int (nI (mostN K p))), (7, .long (lN (sm (whN K f p) (mostN K p + 1)))), (9, .int (nI 1)), (12, .int (nI i))]) C dX6_tick1_207 (by decide) rfl ?_
                                refine xaload_n C 5 rfl dX6_tick1_209 ?_
                                refine xiload C 8 rfl dX6_tick1_210 ?_
                                refine xiload C 3 rfl dX6_tick1_212 ?_
                                refine ms_st C j h8 hj p (by omega) dX6_tick1_214 ?_
                                obtain ⟨FA, eFA⟩ : ∃ z : Nat → Nat → Int32, z = va_up F j (upd (F j) p (nI (nohN K p i))) := ⟨_, rfl⟩
                                refine xworld (ws' := WM b t I FA) (by rw [eFA]) ?_
                                have hXA : ∀ q, q ≠ j → FA q = F q := fun q hq => by rw [eFA, va_up_ne _ _ hq]
                                have hSA : RA (kn K) (FA j) (tkN K sd f tt) := by rw [eFA, va_up_self]; exact tk_up hS (ech.trans hcs) hx5 epl
                                refine xiload C 0 rfl dX6_tick1_215 ?_
                                exact xret C hR (by rfl) dX6_tick1_217 (⟨_, rfl, by rw [bn_t (P := chgP K sd f tt) (fun q => by rw [← epl] at q; exact h199 (q.symm.trans hcs))], FA, rfl, hXA, hSA⟩)
                  refine xsub [3, 4, 5, 6, 7, 8, 9, 10, 2, 1, 0] rfl ?_
                  exact LP129 _ 0 (Nat.zero_le _) (fun x h => absurd h (Nat.not_lt_zero _)) (by show ¬ _ < 65536 * 0; omega) (Nat.lt_succ_self _)
            ·
              refine xlload C 7 rfl dX6_tick1_77 ?_
              refine xaload_n C 0 rfl dX6_tick1_79 ?_
              refine xaload_n C 1 rfl dX6_tick1_80 ?_
              refine xiload C 4 rfl dX6_tick1_81 ?_
              refine xiload C 8 rfl dX6_tick1_83 ?_
              refine xcVR C (c_X6_weightAt hK hW j h8 hj hS p hp i (by omega) (hh)) yk_X6_weightAt 0 rfl rfl xml_X6_116 ⟨⟨Nat.le_of_ble_eq_true rfl, Nat.le_of_ble_eq_true rfl⟩, ⟨rfl, rfl⟩, ⟨Nat.zero_le _, Nat.zero_le _⟩⟩ rfl (Nat.le_of_ble_eq_true rfl) dX6_tick1_85 ?_
              refine xladdN C dX6_tick1_88 ?_
              refine xtopl (y := lN (sm (waN K f p) (i + 1))) (rfl) ?_
              refine xlstore (lv' := [(7, .long (lN (sm (waN K f p) (i + 1)))), (0, .ref (b 0)), (1, .ref (b j)), (2, .int tt), (3, .int (mixI sd tt)), (4, .int (nI p)), (5, .int (nI (lotN (mixI sd tt)))), (6, .int (nI (mostN K p))), (9, .int (nI i))]) C dX6_tick1_89 (by decide) rfl ?_
              refine xiincN (lv' := [(9, .int (nI (i + 1))), (7, .long (lN (sm (waN K f p) (i + 1)))), (0, .ref (b 0)), (1, .ref (b j)), (2, .int tt), (3, .int (mixI sd tt)), (4, .int (nI p)), (5, .int (nI (lotN (mixI sd tt)))), (6, .int (nI (mostN K p)))]) C 8 rfl dX6_tick1_91 (by decide) rfl ?_
              refine xgoto C 70 dX6_tick1_94 (by decide) ?_
              refine xsub [2, 3, 4, 5, 6, 7, 8, 1, 0] rfl ?_
              exact ih70 (i + 1) (by omega) (by omega)
        refine xsub [6, 7, 8, 5, 4, 3, 2, 1, 0] rfl ?_
        exact LP70 _ 0 (Nat.zero_le _) (Nat.lt_succ_self _)
    ·
      refine xiconst (v := nI 0) C dX6_tick1_41 (by decide) ?_
      exact xret C hR (by rfl) dX6_tick1_42 (⟨_, rfl, by rw [bn_f (P := chgP K sd f tt) (fun q => q (by rw [← epl]; exact tk_held hW hp h28 (hdnl (by omega) h38) (hHE h28 p hp (hdnl (by omega) h38))))], F, rfl, fun _ _ => rfl, tk_ra hS (ech.trans (tk_held hW hp h28 (hdnl (by omega) h38) (hHE h28 p hp (hdnl (by omega) h38)))) epl⟩)
