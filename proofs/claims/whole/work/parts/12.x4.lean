/-! Ticks (written by my program parts_x4.py). -/
theorem of_tn {y : Int32} {N : Nat} (h : y.toBitVec.toNat = N) (hN : N < 2 ^ 32) : y = nI N := by
  apply Int32.toBitVec_inj.mp
  apply BitVec.eq_of_toNat_eq
  rw [h, pk_tn hN]
theorem ush16 (x : Int32) : (x.toUInt32 >>> ((16 : Int32).toUInt32 &&& Int32.toUInt32 31)).toInt32 = nI (x.toBitVec.toNat / 65536) :=
  of_tn (pk_ushr x 16 16 (by decide +kernel)) (by have := x.toBitVec.isLt; omega)
theorem ush16_lt (x : Int32) : x.toBitVec.toNat / 65536 < 2 ^ 31 := by have := x.toBitVec.isLt; omega
theorem lotN_lt (x : Int32) : lotN x < 65536 := Nat.mod_lt _ (by decide)
theorem pr_le {g : Nat → Nat} (h : ∀ i, g i ≤ 9) : ∀ k, pr g k ≤ 9 ^ k
  | 0 => Nat.le_refl 1
  | k + 1 => by
    show pr g k * g k ≤ 9 ^ (k + 1)
    rw [Nat.pow_succ]
    exact Nat.mul_le_mul (pr_le h k) (h k)
theorem waN_le {K : Cfg} (hW : WFK K) (f : Nat → Nat) (p x : Nat) : waN K f p x ≤ 4782969 := by
  have h1 := pr_le (g := fun i => lwN K x (f (knb K p i))) (fun i => lwN_le hW _ _) (kdg K p)
  have h2 : 9 ^ kdg K p ≤ 9 ^ 6 := Nat.pow_le_pow_right (by omega) (hW.dg6 p)
  exact Nat.le_trans (Nat.mul_le_mul (pwN_le hW p x) (Nat.le_trans h1 h2)) (by decide)
theorem sm_le {g : Nat → Nat} {c : Nat} (h : ∀ i, g i ≤ c) : ∀ k, sm g k ≤ k * c
  | 0 => Nat.zero_le _
  | k + 1 => by
    show sm g k + g k ≤ (k + 1) * c
    have h1 := sm_le h k
    have h2 := h k
    rw [Nat.add_mul]
    omega
theorem whN_sm {K : Cfg} (hW : WFK K) {p : Nat} (f : Nat → Nat) {k : Nat} (hk : k ≤ 6) : sm (whN K f p) k ≤ 28697814 := by
  have h1 := sm_le (g := whN K f p) (c := 4782969) (fun i => waN_le hW f p _) k
  omega
theorem whN_lt1 {K : Cfg} (hW : WFK K) {p lot : Nat} (hp : p < kn K) {f : Nat → Nat} (hl : lot < 65536) : lot * sm (whN K f p) (mostN K p + 1) < 2 ^ 63 := by
  have h1 := whN_sm hW (p := p) f (k := mostN K p + 1) (by have := mostN_le hW hp; omega)
  exact Nat.lt_of_le_of_lt (Nat.mul_le_mul (Nat.le_of_lt hl) h1) (by decide)
theorem whN_lt2 {K : Cfg} (hW : WFK K) {p i : Nat} (hp : p < kn K) {f : Nat → Nat} (hi : i ≤ mostN K p) : 65536 * sm (whN K f p) (i + 1) < 2 ^ 63 := by
  have h1 := whN_sm hW (p := p) f (k := i + 1) (by have := mostN_le hW hp; omega)
  exact Nat.lt_of_le_of_lt (Nat.mul_le_mul (Nat.le_refl _) h1) (by decide)
theorem fst_lt {P : Nat → Prop} : ∀ {k i : Nat}, fst P k = some i → i < k ∧ P i
  | 0, i, h => by cases h
  | k + 1, i, h => by
    unfold fst at h
    cases e : fst P k with
    | some j =>
      rw [e] at h
      cases h
      exact ⟨Nat.lt_succ_of_lt (fst_lt e).1, (fst_lt e).2⟩
    | none =>
      rw [e] at h
      by_cases q : bn (P k) = 1
      · simp only [if_pos q] at h
        cases h
        exact ⟨Nat.lt_succ_self _, bn_1 (by omega)⟩
      · simp only [if_neg q] at h
        cases h
theorem chN_cases (K : Cfg) (f : Nat → Nat) (p lot : Nat) : (∃ h, h ≤ mostN K p ∧ lot * sm (whN K f p) (mostN K p + 1) < 65536 * sm (whN K f p) (h + 1) ∧ chN K f p lot = nohN K p h) ∨ chN K f p lot = f p := by
  unfold chN
  cases e : fst (fun h => lot * sm (whN K f p) (mostN K p + 1) < 65536 * sm (whN K f p) (h + 1)) (mostN K p + 1) with
  | none => exact Or.inr rfl
  | some h => exact Or.inl ⟨h, by have := (fst_lt e).1; omega, (fst_lt e).2, rfl⟩
theorem chN_some {K : Cfg} {f : Nat → Nat} {p lot i : Nat} (hi : i ≤ mostN K p) (h : lot * sm (whN K f p) (mostN K p + 1) < 65536 * sm (whN K f p) (i + 1)) (hno : ∀ x, x < i → ¬ lot * sm (whN K f p) (mostN K p + 1) < 65536 * sm (whN K f p) (x + 1)) : chN K f p lot = nohN K p i := by
  unfold chN
  rw [fst_some (P := fun h => lot * sm (whN K f p) (mostN K p + 1) < 65536 * sm (whN K f p) (h + 1)) h hno (by omega)]
theorem chN_le {K : Cfg} (hW : WFK K) {f : Nat → Nat} {p lot : Nat} (hp : p < kn K) (hf : f p ≤ 5) : chN K f p lot ≤ 5 := by
  rcases chN_cases K f p lot with ⟨h, h1, _, h2⟩ | h
  · rw [h2]; exact nohN_le (by have := mostN_le hW hp; omega)
  · rw [h]; exact hf
/-- a tick changes the state -/
def chgP (K : Cfg) (sd : Int32) (f : Nat → Nat) (tt : Int32) : Prop := chN K f (plN K (mixI sd tt)) (lotN (mixI sd tt)) ≠ f (plN K (mixI sd tt))
theorem dX4_mixed_0 : decode cX4_mixed 0 = .ok (.iload_n 0, 1) := by decide +kernel
theorem dX4_mixed_1 : decode cX4_mixed 1 = .ok (.ldc 23, 2) := by decide +kernel
theorem dX4_mixed_3 : decode cX4_mixed 3 = .ok (.imul, 1) := by decide +kernel
theorem dX4_mixed_4 : decode cX4_mixed 4 = .ok (.iload_n 1, 1) := by decide +kernel
theorem dX4_mixed_5 : decode cX4_mixed 5 = .ok (.sipush 12345, 3) := by decide +kernel
theorem dX4_mixed_8 : decode cX4_mixed 8 = .ok (.imul, 1) := by decide +kernel
theorem dX4_mixed_9 : decode cX4_mixed 9 = .ok (.iadd, 1) := by decide +kernel
theorem dX4_mixed_10 : decode cX4_mixed 10 = .ok (.ldc 24, 2) := by decide +kernel
theorem dX4_mixed_12 : decode cX4_mixed 12 = .ok (.iadd, 1) := by decide +kernel
theorem dX4_mixed_13 : decode cX4_mixed 13 = .ok (.istore_n 2, 1) := by decide +kernel
theorem dX4_mixed_14 : decode cX4_mixed 14 = .ok (.iload_n 2, 1) := by decide +kernel
theorem dX4_mixed_15 : decode cX4_mixed 15 = .ok (.iload_n 2, 1) := by decide +kernel
theorem dX4_mixed_16 : decode cX4_mixed 16 = .ok (.bipush 15, 2) := by decide +kernel
theorem dX4_mixed_18 : decode cX4_mixed 18 = .ok (.iushr, 1) := by decide +kernel
theorem dX4_mixed_19 : decode cX4_mixed 19 = .ok (.ixor, 1) := by decide +kernel
theorem dX4_mixed_20 : decode cX4_mixed 20 = .ok (.ldc 25, 2) := by decide +kernel
theorem dX4_mixed_22 : decode cX4_mixed 22 = .ok (.imul, 1) := by decide +kernel
theorem dX4_mixed_23 : decode cX4_mixed 23 = .ok (.istore_n 2, 1) := by decide +kernel
theorem dX4_mixed_24 : decode cX4_mixed 24 = .ok (.iload_n 2, 1) := by decide +kernel
theorem dX4_mixed_25 : decode cX4_mixed 25 = .ok (.iload_n 2, 1) := by decide +kernel
theorem dX4_mixed_26 : decode cX4_mixed 26 = .ok (.bipush 12, 2) := by decide +kernel
theorem dX4_mixed_28 : decode cX4_mixed 28 = .ok (.iushr, 1) := by decide +kernel
theorem dX4_mixed_29 : decode cX4_mixed 29 = .ok (.ixor, 1) := by decide +kernel
theorem dX4_mixed_30 : decode cX4_mixed 30 = .ok (.ldc 26, 2) := by decide +kernel
theorem dX4_mixed_32 : decode cX4_mixed 32 = .ok (.imul, 1) := by decide +kernel
theorem dX4_mixed_33 : decode cX4_mixed 33 = .ok (.istore_n 2, 1) := by decide +kernel
theorem dX4_mixed_34 : decode cX4_mixed 34 = .ok (.iload_n 2, 1) := by decide +kernel
theorem dX4_mixed_35 : decode cX4_mixed 35 = .ok (.iload_n 2, 1) := by decide +kernel
theorem dX4_mixed_36 : decode cX4_mixed 36 = .ok (.bipush 15, 2) := by decide +kernel
theorem dX4_mixed_38 : decode cX4_mixed 38 = .ok (.iushr, 1) := by decide +kernel
theorem dX4_mixed_39 : decode cX4_mixed 39 = .ok (.ixor, 1) := by decide +kernel
theorem dX4_mixed_40 : decode cX4_mixed 40 = .ok (.ireturn, 1) := by decide +kernel
def rX4_mixed : Room := { frames := 0, cells := 0, slots := 0, locals := 0 }
theorem sk_X4_mixed : SK yX4_mixed cX4_mixed 3 (some .int) 2 := ⟨xst_X4_mixed, xin_X4, xco_X4_mixed, by decide +kernel⟩
set_option maxRecDepth 4000 in
theorem c_X4_mixed {l : Launch} {D : va_G} {t : Nat → ClassId} {a : Nat → Nat} {I : Nat → Int32} {F : Nat → Nat → Int32} {L : Nat → Int64} (sd tt : Int32) : CT l D t yX4_mixed cX4_mixed 3 (some .int) rX4_mixed 0 0 [.int sd, .int tt] (WX a t I F L) (RP (.int (mixI sd tt)) (WX a t I F L)) := by
  refine CT.of (by decide +kernel) (by simp [lg_sl, Value.category]) (fun X C hR => ?_)
  refine xlocals (lv' := [(0, .int sd), (1, .int tt)]) rfl ?_
  refine xiload_n C 0 rfl dX4_mixed_0 ?_
  refine xldc C dX4_mixed_1 xcn_X4_23 ?_
  refine ximul C dX4_mixed_3 ?_
  refine xiload_n C 1 rfl dX4_mixed_4 ?_
  refine xsipush (v := 12345) C dX4_mixed_5 (by decide) ?_
  refine ximul C dX4_mixed_8 ?_
  refine xiadd C dX4_mixed_9 ?_
  refine xldc C dX4_mixed_10 xcn_X4_24 ?_
  refine xiadd C dX4_mixed_12 ?_
  obtain ⟨m1, em1⟩ : ∃ z : Int32, z = ((sd * 1103515245) + (tt * 12345)) + 1013904223 := ⟨_, rfl⟩
  refine xtopi (y := m1) em1.symm ?_
  refine xistore_n (lv' := [(2, .int m1), (0, .int sd), (1, .int tt)]) C dX4_mixed_13 (by decide) rfl ?_
  refine xiload_n C 0 rfl dX4_mixed_14 ?_
  refine xiload_n C 0 rfl dX4_mixed_15 ?_
  refine xbipush (v := 15) C dX4_mixed_16 (by decide) ?_
  refine xiushr C dX4_mixed_18 ?_
  refine xixor C dX4_mixed_19 ?_
  refine xldc C dX4_mixed_20 xcn_X4_25 ?_
  refine ximul C dX4_mixed_22 ?_
  obtain ⟨m2, em2⟩ : ∃ z : Int32, z = (m1 ^^^ ((m1.toUInt32 >>> ((15 : Int32).toUInt32 &&& Int32.toUInt32 31)).toInt32)) * 739982445 := ⟨_, rfl⟩
  refine xtopi (y := m2) em2.symm ?_
  refine xistore_n (lv' := [(2, .int m2), (0, .int sd), (1, .int tt)]) C dX4_mixed_23 (by decide) rfl ?_
  refine xiload_n C 0 rfl dX4_mixed_24 ?_
  refine xiload_n C 0 rfl dX4_mixed_25 ?_
  refine xbipush (v := 12) C dX4_mixed_26 (by decide) ?_
  refine xiushr C dX4_mixed_28 ?_
  refine xixor C dX4_mixed_29 ?_
  refine xldc C dX4_mixed_30 xcn_X4_26 ?_
  refine ximul C dX4_mixed_32 ?_
  obtain ⟨m3, em3⟩ : ∃ z : Int32, z = (m2 ^^^ ((m2.toUInt32 >>> ((12 : Int32).toUInt32 &&& Int32.toUInt32 31)).toInt32)) * 695872825 := ⟨_, rfl⟩
  refine xtopi (y := m3) em3.symm ?_
  refine xistore_n (lv' := [(2, .int m3), (0, .int sd), (1, .int tt)]) C dX4_mixed_33 (by decide) rfl ?_
  refine xiload_n C 0 rfl dX4_mixed_34 ?_
  refine xiload_n C 0 rfl dX4_mixed_35 ?_
  refine xbipush (v := 15) C dX4_mixed_36 (by decide) ?_
  refine xiushr C dX4_mixed_38 ?_
  refine xixor C dX4_mixed_39 ?_
  exact xret C hR (rfl) dX4_mixed_40 (RPi (by rw [em3, em2, em1]; rfl))
theorem dX4_lotOf_0 : decode cX4_lotOf 0 = .ok (.iload_n 0, 1) := by decide +kernel
theorem dX4_lotOf_1 : decode cX4_lotOf 1 = .ok (.ldc 27, 2) := by decide +kernel
theorem dX4_lotOf_3 : decode cX4_lotOf 3 = .ok (.iand, 1) := by decide +kernel
theorem dX4_lotOf_4 : decode cX4_lotOf 4 = .ok (.ireturn, 1) := by decide +kernel
def rX4_lotOf : Room := { frames := 0, cells := 0, slots := 0, locals := 0 }
theorem sk_X4_lotOf : SK yX4_lotOf cX4_lotOf 1 (some .int) 1 := ⟨xst_X4_lotOf, xin_X4, xco_X4_lotOf, by decide +kernel⟩
set_option maxRecDepth 4000 in
theorem c_X4_lotOf {l : Launch} {D : va_G} {t : Nat → ClassId} {a : Nat → Nat} {I : Nat → Int32} {F : Nat → Nat → Int32} {L : Nat → Int64} (x : Int32) : CT l D t yX4_lotOf cX4_lotOf 1 (some .int) rX4_lotOf 0 0 [.int x] (WX a t I F L) (RP (.int (nI (lotN x))) (WX a t I F L)) := by
  refine CT.of (by decide +kernel) (by simp [lg_sl, Value.category]) (fun X C hR => ?_)
  refine xlocals (lv' := [(0, .int x)]) rfl ?_
  refine xiload_n C 0 rfl dX4_lotOf_0 ?_
  refine xldc C dX4_lotOf_1 xcn_X4_27 ?_
  refine xiand C dX4_lotOf_3 ?_
  refine xtopi (y := nI (lotN x)) (pk_and x 16 (by decide +kernel)) ?_
  exact xret C hR (rfl) dX4_lotOf_4 (RPn (rfl))
theorem dX4_placeOf_0 : decode cX4_placeOf 0 = .ok (.aload_n 0, 1) := by decide +kernel
theorem dX4_placeOf_1 : decode cX4_placeOf 1 = .ok (.getfield 15, 3) := by decide +kernel
theorem dX4_placeOf_4 : decode cX4_placeOf 4 = .ok (.getfield 28, 3) := by decide +kernel
theorem dX4_placeOf_7 : decode cX4_placeOf 7 = .ok (.ifCond .le 18, 3) := by decide +kernel
theorem dX4_placeOf_10 : decode cX4_placeOf 10 = .ok (.iload_n 1, 1) := by decide +kernel
theorem dX4_placeOf_11 : decode cX4_placeOf 11 = .ok (.bipush 16, 2) := by decide +kernel
theorem dX4_placeOf_13 : decode cX4_placeOf 13 = .ok (.iushr, 1) := by decide +kernel
theorem dX4_placeOf_14 : decode cX4_placeOf 14 = .ok (.aload_n 0, 1) := by decide +kernel
theorem dX4_placeOf_15 : decode cX4_placeOf 15 = .ok (.getfield 15, 3) := by decide +kernel
theorem dX4_placeOf_18 : decode cX4_placeOf 18 = .ok (.getfield 28, 3) := by decide +kernel
theorem dX4_placeOf_21 : decode cX4_placeOf 21 = .ok (.irem, 1) := by decide +kernel
theorem dX4_placeOf_22 : decode cX4_placeOf 22 = .ok (.goto 4, 3) := by decide +kernel
theorem dX4_placeOf_26 : decode cX4_placeOf 26 = .ok (.ireturn, 1) := by decide +kernel
def rX4_placeOf : Room := { frames := 0, cells := 0, slots := 0, locals := 0 }
theorem yk_X4_placeOf : YK yX4_placeOf cX4_placeOf 2 (some .int) 1 := ⟨xim_X4_placeOf, xse_X4_placeOf, xin_X4, xco_X4_placeOf, by decide +kernel⟩
set_option maxRecDepth 4000 in
theorem c_X4_placeOf {l : Launch} {D : va_G} {t : Nat → ClassId} {a : Nat → Nat} {I : Nat → Int32} {F : Nat → Nat → Int32} {L : Nat → Int64} {K : Cfg} (hK : CFG K I F) (hW : WFK K) (hn : 0 < kn K) (x : Int32) : CT l D t yX4_placeOf cX4_placeOf 2 (some .int) rX4_placeOf 0 0 [.ref (a 3), .int x] (WX a t I F L) (RP (.int (nI (plN K x))) (WX a t I F L)) := by
  refine CT.of (by decide +kernel) (by simp [lg_sl, Value.category]) (fun X C hR => ?_)
  refine xlocals (lv' := [(0, .ref (a 3)), (1, .int x)]) rfl ?_
  have fn24 := hW.n24; have fm60 := hW.m60; have fk2 := hW.k2; have fu1 := hW.u1; have fu9 := hW.u9; have fv1 := hW.v1; have fv9 := hW.v9
  refine xaload_n C 0 rfl dX4_placeOf_0 ?_
  refine gX4_15 C dX4_placeOf_1 ?_
  refine gX4_28K C hK dX4_placeOf_4 ?_
  refine xif_leN C 25 dX4_placeOf_7 (by decide) (by omega) (fun h7 => ?_) (fun h7 => ?_)
  · exact absurd h7 (by omega)
  ·
    refine xiload_n C 1 rfl dX4_placeOf_10 ?_
    refine xbipush (v := 16) C dX4_placeOf_11 (by decide) ?_
    refine xiushr C dX4_placeOf_13 ?_
    refine xtopi (y := nI (x.toBitVec.toNat / 65536)) (ush16 x) ?_
    refine xaload_n C 0 rfl dX4_placeOf_14 ?_
    refine gX4_15 C dX4_placeOf_15 ?_
    refine gX4_28K C hK dX4_placeOf_18 ?_
    refine xirem C dX4_placeOf_21 (fun q => absurd ((nI_eq (by omega) (by omega)).mp (q.trans nI_0.symm)) (by omega)) ?_
    refine xtopi (y := nI (plN K x)) (pk_rem (ush16_lt x) hn (by omega)) ?_
    refine xgoto C 26 dX4_placeOf_22 (by decide) ?_
    exact xret C hR (rfl) dX4_placeOf_26 (RPn (rfl))
theorem dX4_chosen_0 : decode cX4_chosen 0 = .ok (.aload_n 0, 1) := by decide +kernel
theorem dX4_chosen_1 : decode cX4_chosen 1 = .ok (.getfield 19, 3) := by decide +kernel
theorem dX4_chosen_4 : decode cX4_chosen 4 = .ok (.iload_n 2, 1) := by decide +kernel
theorem dX4_chosen_5 : decode cX4_chosen 5 = .ok (.invokevirtual 49, 3) := by decide +kernel
theorem dX4_chosen_8 : decode cX4_chosen 8 = .ok (.istore 4, 2) := by decide +kernel
theorem dX4_chosen_10 : decode cX4_chosen 10 = .ok (.lconst 0, 1) := by decide +kernel
theorem dX4_chosen_11 : decode cX4_chosen 11 = .ok (.lstore 5, 2) := by decide +kernel
theorem dX4_chosen_13 : decode cX4_chosen 13 = .ok (.iconst 0, 1) := by decide +kernel
theorem dX4_chosen_14 : decode cX4_chosen 14 = .ok (.istore 7, 2) := by decide +kernel
theorem dX4_chosen_16 : decode cX4_chosen 16 = .ok (.iload 7, 2) := by decide +kernel
theorem dX4_chosen_18 : decode cX4_chosen 18 = .ok (.iload 4, 2) := by decide +kernel
theorem dX4_chosen_20 : decode cX4_chosen 20 = .ok (.if_icmp .gt 47, 3) := by decide +kernel
theorem dX4_chosen_23 : decode cX4_chosen 23 = .ok (.aload_n 0, 1) := by decide +kernel
theorem dX4_chosen_24 : decode cX4_chosen 24 = .ok (.getfield 9, 3) := by decide +kernel
theorem dX4_chosen_27 : decode cX4_chosen 27 = .ok (.iload 7, 2) := by decide +kernel
theorem dX4_chosen_29 : decode cX4_chosen 29 = .ok (.aload_n 0, 1) := by decide +kernel
theorem dX4_chosen_30 : decode cX4_chosen 30 = .ok (.getfield 19, 3) := by decide +kernel
theorem dX4_chosen_33 : decode cX4_chosen 33 = .ok (.aload_n 1, 1) := by decide +kernel
theorem dX4_chosen_34 : decode cX4_chosen 34 = .ok (.iload_n 2, 1) := by decide +kernel
theorem dX4_chosen_35 : decode cX4_chosen 35 = .ok (.aload_n 0, 1) := by decide +kernel
theorem dX4_chosen_36 : decode cX4_chosen 36 = .ok (.getfield 19, 3) := by decide +kernel
theorem dX4_chosen_39 : decode cX4_chosen 39 = .ok (.iload_n 2, 1) := by decide +kernel
theorem dX4_chosen_40 : decode cX4_chosen 40 = .ok (.iload 7, 2) := by decide +kernel
theorem dX4_chosen_42 : decode cX4_chosen 42 = .ok (.invokevirtual 54, 3) := by decide +kernel
theorem dX4_chosen_45 : decode cX4_chosen 45 = .ok (.invokevirtual 57, 3) := by decide +kernel
theorem dX4_chosen_48 : decode cX4_chosen 48 = .ok (.lastore, 1) := by decide +kernel
theorem dX4_chosen_49 : decode cX4_chosen 49 = .ok (.lload 5, 2) := by decide +kernel
theorem dX4_chosen_51 : decode cX4_chosen 51 = .ok (.aload_n 0, 1) := by decide +kernel
theorem dX4_chosen_52 : decode cX4_chosen 52 = .ok (.getfield 9, 3) := by decide +kernel
theorem dX4_chosen_55 : decode cX4_chosen 55 = .ok (.iload 7, 2) := by decide +kernel
theorem dX4_chosen_57 : decode cX4_chosen 57 = .ok (.laload, 1) := by decide +kernel
theorem dX4_chosen_58 : decode cX4_chosen 58 = .ok (.ladd, 1) := by decide +kernel
theorem dX4_chosen_59 : decode cX4_chosen 59 = .ok (.lstore 5, 2) := by decide +kernel
theorem dX4_chosen_61 : decode cX4_chosen 61 = .ok (.iinc 7 1, 3) := by decide +kernel
theorem dX4_chosen_64 : decode cX4_chosen 64 = .ok (.goto (-48), 3) := by decide +kernel
theorem dX4_chosen_67 : decode cX4_chosen 67 = .ok (.lconst 0, 1) := by decide +kernel
theorem dX4_chosen_68 : decode cX4_chosen 68 = .ok (.lstore 7, 2) := by decide +kernel
theorem dX4_chosen_70 : decode cX4_chosen 70 = .ok (.iconst 0, 1) := by decide +kernel
theorem dX4_chosen_71 : decode cX4_chosen 71 = .ok (.istore 9, 2) := by decide +kernel
theorem dX4_chosen_73 : decode cX4_chosen 73 = .ok (.iload 9, 2) := by decide +kernel
theorem dX4_chosen_75 : decode cX4_chosen 75 = .ok (.iload 4, 2) := by decide +kernel
theorem dX4_chosen_77 : decode cX4_chosen 77 = .ok (.if_icmp .gt 47, 3) := by decide +kernel
theorem dX4_chosen_80 : decode cX4_chosen 80 = .ok (.lload 7, 2) := by decide +kernel
theorem dX4_chosen_82 : decode cX4_chosen 82 = .ok (.aload_n 0, 1) := by decide +kernel
theorem dX4_chosen_83 : decode cX4_chosen 83 = .ok (.getfield 9, 3) := by decide +kernel
theorem dX4_chosen_86 : decode cX4_chosen 86 = .ok (.iload 9, 2) := by decide +kernel
theorem dX4_chosen_88 : decode cX4_chosen 88 = .ok (.laload, 1) := by decide +kernel
theorem dX4_chosen_89 : decode cX4_chosen 89 = .ok (.ladd, 1) := by decide +kernel
theorem dX4_chosen_90 : decode cX4_chosen 90 = .ok (.lstore 7, 2) := by decide +kernel
theorem dX4_chosen_92 : decode cX4_chosen 92 = .ok (.iload_n 3, 1) := by decide +kernel
theorem dX4_chosen_93 : decode cX4_chosen 93 = .ok (.i2l, 1) := by decide +kernel
theorem dX4_chosen_94 : decode cX4_chosen 94 = .ok (.lload 5, 2) := by decide +kernel
theorem dX4_chosen_96 : decode cX4_chosen 96 = .ok (.lmul, 1) := by decide +kernel
theorem dX4_chosen_97 : decode cX4_chosen 97 = .ok (.ldc2_w 61, 3) := by decide +kernel
theorem dX4_chosen_100 : decode cX4_chosen 100 = .ok (.lload 7, 2) := by decide +kernel
theorem dX4_chosen_102 : decode cX4_chosen 102 = .ok (.lmul, 1) := by decide +kernel
theorem dX4_chosen_103 : decode cX4_chosen 103 = .ok (.lcmp, 1) := by decide +kernel
theorem dX4_chosen_104 : decode cX4_chosen 104 = .ok (.ifCond .ge 14, 3) := by decide +kernel
theorem dX4_chosen_107 : decode cX4_chosen 107 = .ok (.aload_n 0, 1) := by decide +kernel
theorem dX4_chosen_108 : decode cX4_chosen 108 = .ok (.getfield 19, 3) := by decide +kernel
theorem dX4_chosen_111 : decode cX4_chosen 111 = .ok (.iload_n 2, 1) := by decide +kernel
theorem dX4_chosen_112 : decode cX4_chosen 112 = .ok (.iload 9, 2) := by decide +kernel
theorem dX4_chosen_114 : decode cX4_chosen 114 = .ok (.invokevirtual 54, 3) := by decide +kernel
theorem dX4_chosen_117 : decode cX4_chosen 117 = .ok (.ireturn, 1) := by decide +kernel
theorem dX4_chosen_118 : decode cX4_chosen 118 = .ok (.iinc 9 1, 3) := by decide +kernel
theorem dX4_chosen_121 : decode cX4_chosen 121 = .ok (.goto (-48), 3) := by decide +kernel
theorem dX4_chosen_124 : decode cX4_chosen 124 = .ok (.aload_n 1, 1) := by decide +kernel
theorem dX4_chosen_125 : decode cX4_chosen 125 = .ok (.iload_n 2, 1) := by decide +kernel
theorem dX4_chosen_126 : decode cX4_chosen 126 = .ok (.iaload, 1) := by decide +kernel
theorem dX4_chosen_127 : decode cX4_chosen 127 = .ok (.ireturn, 1) := by decide +kernel
def rX4_chosen : Room := { frames := 3, cells := 0, slots := 0, locals := 70 }
theorem yk_X4_chosen : YK yX4_chosen cX4_chosen 10 (some .int) 3 := ⟨xim_X4_chosen, xse_X4_chosen, xin_X4, xco_X4_chosen, by decide +kernel⟩
set_option maxRecDepth 4000 in
theorem c_X4_chosen {l : Launch} {D : va_G} {t : Nat → ClassId} {a : Nat → Nat} {I : Nat → Int32} {F : Nat → Nat → Int32} {L : Nat → Int64} {K : Cfg} (hK : CFG K I F) (hW : WFK K) (j : Nat) (h6 : 6 ≤ j) (hj : j < 13) {f : Nat → Nat} (hS : RA (kn K) (F j) f) (p : Nat) (hp : p < kn K) (lot : Nat) (hlot : lot < 65536) : CT l D t yX4_chosen cX4_chosen 10 (some .int) rX4_chosen 0 0 [.ref (a 3), .ref (a (8 + j)), .int (nI p), .int (nI lot)] (WX a t I F L) (EP (fun v w => v = .int (nI (chN K f p lot)) ∧ ∃ L' : Nat → Int64, w = WX a t I F L')) := by
  refine CT.of (by decide +kernel) (by simp [lg_sl, Value.category]) (fun X C hR => ?_)
  refine xlocals (lv' := [(0, .ref (a 3)), (1, .ref (a (8 + j))), (2, .int (nI p)), (3, .int (nI lot))]) rfl ?_
  have fn24 := hW.n24; have fm60 := hW.m60; have fk2 := hW.k2; have fu1 := hW.u1; have fu9 := hW.u9; have fv1 := hW.v1; have fv9 := hW.v9
  refine xaload_n C 0 rfl dX4_chosen_0 ?_
  refine gX4_19 C dX4_chosen_1 ?_
  refine xiload_n C 2 rfl dX4_chosen_4 ?_
  refine xcVR C (c_X2_most hK hW p (by omega)) yk_X2_most 2 rfl rfl xml_X4_49 ⟨⟨Nat.le_of_ble_eq_true rfl, Nat.le_of_ble_eq_true rfl⟩, ⟨rfl, rfl⟩, ⟨Nat.zero_le _, Nat.zero_le _⟩⟩ rfl (Nat.le_of_ble_eq_true rfl) dX4_chosen_5 ?_
  have fm5 := mostN_le hW (show p < kn K by omega)
  refine xistore (lv' := [(4, .int (nI (mostN K p))), (0, .ref (a 3)), (1, .ref (a (8 + j))), (2, .int (nI p)), (3, .int (nI lot))]) C dX4_chosen_8 (by decide) rfl ?_
  refine xlconst (v := lN 0) C dX4_chosen_10 (by decide) ?_
  refine xlstore (lv' := [(5, .long (lN 0)), (4, .int (nI (mostN K p))), (0, .ref (a 3)), (1, .ref (a (8 + j))), (2, .int (nI p)), (3, .int (nI lot))]) C dX4_chosen_11 (by decide) rfl ?_
  refine xiconst (v := nI 0) C dX4_chosen_13 (by decide) ?_
  refine xistore (lv' := [(7, .int (nI 0)), (5, .long (lN 0)), (4, .int (nI (mostN K p))), (0, .ref (a 3)), (1, .ref (a (8 + j))), (2, .int (nI p)), (3, .int (nI lot))]) C dX4_chosen_14 (by decide) rfl ?_
  have LP16 : ∀ (fu16 : Nat) (h : Nat) (LA : Nat → Int64) (hh : h ≤ mostN K p + 1) (hLA : ∀ x, x < h → LA x = lN (whN K f p x)), mostN K p + 1 - h < fu16 → XW X 0 0 (WX a t I F LA) [(0, .ref (a 3)), (1, .ref (a (8 + j))), (2, .int (nI p)), (3, .int (nI lot)), (4, .int (nI (mostN K p))), (5, .long (lN (sm (whN K f p) h))), (7, .int (nI h))] 16 [] := by
    intro fu16
    induction fu16 with
    | zero => intro h LA hh hLA hm16; exact absurd hm16 (Nat.not_lt_zero _)
    | succ fu16 ih16 =>
      intro h LA hh hLA hm16
      refine xiload C 6 rfl dX4_chosen_16 ?_
      refine xiload C 4 rfl dX4_chosen_18 ?_
      refine xicmp_gtN C 67 dX4_chosen_20 (by decide) (by omega) (by omega) (fun h20 => ?_) (fun h20 => ?_)
      ·
        have eh : h = mostN K p + 1 := by omega
        rw [eh] at hLA
        refine xlocals (lv' := [(0, .ref (a 3)), (1, .ref (a (8 + j))), (2, .int (nI p)), (3, .int (nI lot)), (4, .int (nI (mostN K p))), (5, .long (lN (sm (whN K f p) (mostN K p + 1)))), (7, .int (nI h))]) (by rw [eh]) ?_
        refine xlconst (v := lN 0) C dX4_chosen_67 (by decide) ?_
        refine xlstore (lv' := [(7, .long (lN 0)), (0, .ref (a 3)), (1, .ref (a (8 + j))), (2, .int (nI p)), (3, .int (nI lot)), (4, .int (nI (mostN K p))), (5, .long (lN (sm (whN K f p) (mostN K p + 1))))]) C dX4_chosen_68 (by decide) rfl ?_
        refine xiconst (v := nI 0) C dX4_chosen_70 (by decide) ?_
        refine xistore (lv' := [(9, .int (nI 0)), (7, .long (lN 0)), (0, .ref (a 3)), (1, .ref (a (8 + j))), (2, .int (nI p)), (3, .int (nI lot)), (4, .int (nI (mostN K p))), (5, .long (lN (sm (whN K f p) (mostN K p + 1))))]) C dX4_chosen_71 (by decide) rfl ?_
        have LP73 : ∀ (fu73 : Nat) (i : Nat) (hi : i ≤ mostN K p + 1) (hno : ∀ x, x < i → ¬ lot * sm (whN K f p) (mostN K p + 1) < 65536 * sm (whN K f p) (x + 1)), mostN K p + 1 - i < fu73 → XW X 0 0 (WX a t I F LA) [(0, .ref (a 3)), (1, .ref (a (8 + j))), (2, .int (nI p)), (3, .int (nI lot)), (4, .int (nI (mostN K p))), (5, .long (lN (sm (whN K f p) (mostN K p + 1)))), (7, .long (lN (sm (whN K f p) i))), (9, .int (nI i))] 73 [] := by
          intro fu73
          induction fu73 with
          | zero => intro i hi hno hm73; exact absurd hm73 (Nat.not_lt_zero _)
          | succ fu73 ih73 =>
            intro i hi hno hm73
            refine xiload C 7 rfl dX4_chosen_73 ?_
            refine xiload C 4 rfl dX4_chosen_75 ?_
            refine xicmp_gtN C 124 dX4_chosen_77 (by decide) (by omega) (by omega) (fun h77 => ?_) (fun h77 => ?_)
            ·
              refine xaload_n C 1 rfl dX4_chosen_124 ?_
              refine xiload_n C 2 rfl dX4_chosen_125 ?_
              refine xa_st C hW j h6 hj hS p (by omega) dX4_chosen_126 ?_
              have fb126 := (hS p (by omega)).2
              exact xret C hR (rfl) dX4_chosen_127 (⟨_, rfl, by rw [show chN K f p lot = f p from by unfold chN; rw [fst_none (fun x hx => hno x (by omega))]], LA, rfl⟩)
            ·
              refine xlload C 6 rfl dX4_chosen_80 ?_
              refine xaload_n C 0 rfl dX4_chosen_82 ?_
              refine gX4_9 C dX4_chosen_83 ?_
              refine xiload C 7 rfl dX4_chosen_86 ?_
              refine xa_w C i (by omega) dX4_chosen_88 ?_
              refine xtopl (y := lN (whN K f p i)) (hLA i (by omega)) ?_
              refine xladdN C dX4_chosen_89 ?_
              refine xtopl (y := lN (sm (whN K f p) (i + 1))) (rfl) ?_
              refine xlstore (lv' := [(7, .long (lN (sm (whN K f p) (i + 1)))), (0, .ref (a 3)), (1, .ref (a (8 + j))), (2, .int (nI p)), (3, .int (nI lot)), (4, .int (nI (mostN K p))), (5, .long (lN (sm (whN K f p) (mostN K p + 1)))), (9, .int (nI i))]) C dX4_chosen_90 (by decide) rfl ?_
              refine xiload_n C 4 rfl dX4_chosen_92 ?_
              refine xi2lN C (by omega) dX4_chosen_93 ?_
              refine xlload C 6 rfl dX4_chosen_94 ?_
              refine xlmulN C dX4_chosen_96 ?_
              refine xldc2 C dX4_chosen_97 xcn_X4_61 ?_
              refine xtopl (y := lN 65536) (by decide +kernel) ?_
              refine xlload C 0 rfl dX4_chosen_100 ?_
              refine xlmulN C dX4_chosen_102 ?_
              refine xlcmp_ge C 118 dX4_chosen_103 dX4_chosen_104 (by decide) (whN_lt1 hW hp hlot) (whN_lt2 hW hp (by omega)) (fun h103 => ?_) (fun h103 => ?_)
              ·
                refine xiincN (lv' := [(9, .int (nI (i + 1))), (7, .long (lN (sm (whN K f p) (i + 1)))), (0, .ref (a 3)), (1, .ref (a (8 + j))), (2, .int (nI p)), (3, .int (nI lot)), (4, .int (nI (mostN K p))), (5, .long (lN (sm (whN K f p) (mostN K p + 1))))]) C 7 rfl dX4_chosen_118 (by decide) rfl ?_
                refine xgoto C 73 dX4_chosen_121 (by decide) ?_
                refine xsub [2, 3, 4, 5, 6, 7, 1, 0] rfl ?_
                exact ih73 (i + 1) (by omega) (lt_s hno (Nat.not_lt.mpr h103)) (by omega)
              ·
                refine xaload_n C 1 rfl dX4_chosen_107 ?_
                refine gX4_19 C dX4_chosen_108 ?_
                refine xiload_n C 3 rfl dX4_chosen_111 ?_
                refine xiload C 7 rfl dX4_chosen_112 ?_
                refine xcVR C (c_X2_numberOfHeight hK hW p (by omega) i (by omega)) yk_X2_numberOfHeight 2 rfl rfl xml_X4_54 ⟨⟨Nat.le_of_ble_eq_true rfl, Nat.le_of_ble_eq_true rfl⟩, ⟨rfl, rfl⟩, ⟨Nat.zero_le _, Nat.zero_le _⟩⟩ rfl (Nat.le_of_ble_eq_true rfl) dX4_chosen_114 ?_
                have fo114 : nohN K p i ≤ 5 := nohN_le (by omega)
                exact xret C hR (rfl) dX4_chosen_117 (⟨_, rfl, by rw [chN_some h77 h103 hno], LA, rfl⟩)
        refine xsub [2, 3, 4, 5, 6, 7, 1, 0] rfl ?_
        exact LP73 _ 0 (Nat.zero_le _) (fun x h => absurd h (Nat.not_lt_zero _)) (Nat.lt_succ_self _)
      ·
        refine xaload_n C 0 rfl dX4_chosen_23 ?_
        refine gX4_9 C dX4_chosen_24 ?_
        refine xiload C 6 rfl dX4_chosen_27 ?_
        refine xaload_n C 0 rfl dX4_chosen_29 ?_
        refine gX4_19 C dX4_chosen_30 ?_
        refine xaload_n C 1 rfl dX4_chosen_33 ?_
        refine xiload_n C 2 rfl dX4_chosen_34 ?_
        refine xaload_n C 0 rfl dX4_chosen_35 ?_
        refine gX4_19 C dX4_chosen_36 ?_
        refine xiload_n C 2 rfl dX4_chosen_39 ?_
        refine xiload C 6 rfl dX4_chosen_40 ?_
        refine xcVR C (c_X2_numberOfHeight hK hW p (by omega) h (by omega)) yk_X2_numberOfHeight 2 rfl rfl xml_X4_54 ⟨⟨Nat.le_of_ble_eq_true rfl, Nat.le_of_ble_eq_true rfl⟩, ⟨rfl, rfl⟩, ⟨Nat.zero_le _, Nat.zero_le _⟩⟩ rfl (Nat.le_of_ble_eq_true rfl) dX4_chosen_42 ?_
        have fo42 : nohN K p h ≤ 5 := nohN_le (by omega)
        refine xcVR C (c_X2_weightAround hK hW j h6 hj hS p (by omega) (nohN K p h) (by omega)) yk_X2_weightAround 2 rfl rfl xml_X4_57 ⟨⟨Nat.le_of_ble_eq_true rfl, Nat.le_of_ble_eq_true rfl⟩, ⟨rfl, rfl⟩, ⟨Nat.zero_le _, Nat.zero_le _⟩⟩ rfl (Nat.le_of_ble_eq_true rfl) dX4_chosen_45 ?_
        refine xtopl (y := lN (whN K f p h)) (rfl) ?_
        refine xs_w C h (by omega) dX4_chosen_48 ?_
        obtain ⟨LB, eLB⟩ : ∃ z : Nat → Int64, z = vp_updL LA h (lN (whN K f p h)) := ⟨_, rfl⟩
        refine xworld (ws' := WX a t I F LB) (by rw [eLB]) ?_
        refine xlload C 5 rfl dX4_chosen_49 ?_
        refine xaload_n C 0 rfl dX4_chosen_51 ?_
        refine gX4_9 C dX4_chosen_52 ?_
        refine xiload C 6 rfl dX4_chosen_55 ?_
        refine xa_w C h (by omega) dX4_chosen_57 ?_
        refine xtopl (y := lN (whN K f p h)) (by rw [eLB]; simp [vp_updL]) ?_
        refine xladdN C dX4_chosen_58 ?_
        refine xtopl (y := lN (sm (whN K f p) (h + 1))) (rfl) ?_
        refine xlstore (lv' := [(5, .long (lN (sm (whN K f p) (h + 1)))), (0, .ref (a 3)), (1, .ref (a (8 + j))), (2, .int (nI p)), (3, .int (nI lot)), (4, .int (nI (mostN K p))), (7, .int (nI h))]) C dX4_chosen_59 (by decide) rfl ?_
        refine xiincN (lv' := [(7, .int (nI (h + 1))), (5, .long (lN (sm (whN K f p) (h + 1)))), (0, .ref (a 3)), (1, .ref (a (8 + j))), (2, .int (nI p)), (3, .int (nI lot)), (4, .int (nI (mostN K p)))]) C 6 rfl dX4_chosen_61 (by decide) rfl ?_
        refine xgoto C 16 dX4_chosen_64 (by decide) ?_
        refine xsub [2, 3, 4, 5, 6, 1, 0] rfl ?_
        exact ih16 (h + 1) LB (by omega) (fun x hx => by rw [eLB]; by_cases e : x = h; (subst e; simp [vp_updL]); (simp only [vp_updL, if_neg e]; exact hLA x (by omega))) (by omega)
  refine xsub [3, 4, 5, 6, 2, 1, 0] rfl ?_
  exact LP16 _ 0 L (Nat.zero_le _) (fun x h => absurd h (Nat.not_lt_zero _)) (Nat.lt_succ_self _)
theorem dX4_changes_0 : decode cX4_changes 0 = .ok (.iload_n 2, 1) := by decide +kernel
theorem dX4_changes_1 : decode cX4_changes 1 = .ok (.iload_n 3, 1) := by decide +kernel
theorem dX4_changes_2 : decode cX4_changes 2 = .ok (.invokestatic 34, 3) := by decide +kernel
theorem dX4_changes_5 : decode cX4_changes 5 = .ok (.istore 4, 2) := by decide +kernel
theorem dX4_changes_7 : decode cX4_changes 7 = .ok (.aload_n 0, 1) := by decide +kernel
theorem dX4_changes_8 : decode cX4_changes 8 = .ok (.iload 4, 2) := by decide +kernel
theorem dX4_changes_10 : decode cX4_changes 10 = .ok (.invokevirtual 38, 3) := by decide +kernel
theorem dX4_changes_13 : decode cX4_changes 13 = .ok (.istore 5, 2) := by decide +kernel
theorem dX4_changes_15 : decode cX4_changes 15 = .ok (.aload_n 1, 1) := by decide +kernel
theorem dX4_changes_16 : decode cX4_changes 16 = .ok (.iload 5, 2) := by decide +kernel
theorem dX4_changes_18 : decode cX4_changes 18 = .ok (.iaload, 1) := by decide +kernel
theorem dX4_changes_19 : decode cX4_changes 19 = .ok (.istore 6, 2) := by decide +kernel
theorem dX4_changes_21 : decode cX4_changes 21 = .ok (.aload_n 1, 1) := by decide +kernel
theorem dX4_changes_22 : decode cX4_changes 22 = .ok (.iload 5, 2) := by decide +kernel
theorem dX4_changes_24 : decode cX4_changes 24 = .ok (.aload_n 0, 1) := by decide +kernel
theorem dX4_changes_25 : decode cX4_changes 25 = .ok (.aload_n 1, 1) := by decide +kernel
theorem dX4_changes_26 : decode cX4_changes 26 = .ok (.iload 5, 2) := by decide +kernel
theorem dX4_changes_28 : decode cX4_changes 28 = .ok (.iload 4, 2) := by decide +kernel
theorem dX4_changes_30 : decode cX4_changes 30 = .ok (.invokestatic 42, 3) := by decide +kernel
theorem dX4_changes_33 : decode cX4_changes 33 = .ok (.invokevirtual 45, 3) := by decide +kernel
theorem dX4_changes_36 : decode cX4_changes 36 = .ok (.iastore, 1) := by decide +kernel
theorem dX4_changes_37 : decode cX4_changes 37 = .ok (.aload_n 1, 1) := by decide +kernel
theorem dX4_changes_38 : decode cX4_changes 38 = .ok (.iload 5, 2) := by decide +kernel
theorem dX4_changes_40 : decode cX4_changes 40 = .ok (.iaload, 1) := by decide +kernel
theorem dX4_changes_41 : decode cX4_changes 41 = .ok (.iload 6, 2) := by decide +kernel
theorem dX4_changes_43 : decode cX4_changes 43 = .ok (.if_icmp .eq 7, 3) := by decide +kernel
theorem dX4_changes_46 : decode cX4_changes 46 = .ok (.iconst 1, 1) := by decide +kernel
theorem dX4_changes_47 : decode cX4_changes 47 = .ok (.goto 4, 3) := by decide +kernel
theorem dX4_changes_50 : decode cX4_changes 50 = .ok (.iconst 0, 1) := by decide +kernel
theorem dX4_changes_51 : decode cX4_changes 51 = .ok (.ireturn, 1) := by decide +kernel
def rX4_changes : Room := { frames := 4, cells := 0, slots := 0, locals := 99 }
theorem yk_X4_changes : YK yX4_changes cX4_changes 7 (some .boolean) 3 := ⟨xim_X4_changes, xse_X4_changes, xin_X4, xco_X4_changes, by decide +kernel⟩
set_option maxRecDepth 4000 in
theorem c_X4_changes {l : Launch} {D : va_G} {t : Nat → ClassId} {a : Nat → Nat} {I : Nat → Int32} {F : Nat → Nat → Int32} {L : Nat → Int64} {K : Cfg} (hK : CFG K I F) (hW : WFK K) (j : Nat) (h6 : 6 ≤ j) (hj : j < 13) {f : Nat → Nat} (hS : RA (kn K) (F j) f) (hn : 0 < kn K) (sd tt : Int32) : CT l D t yX4_changes cX4_changes 7 (some .boolean) rX4_changes 0 0 [.ref (a 3), .ref (a (8 + j)), .int sd, .int tt] (WX a t I F L) (EP (fun v w => v = .int (nI (bn (chgP K sd f tt))) ∧ ∃ (F' : Nat → Nat → Int32) (L' : Nat → Int64), w = WX a t I F' L' ∧ (∀ q, q ≠ j → F' q = F q) ∧ RA (kn K) (F' j) (tkN K sd f tt))) := by
  refine CT.of (by decide +kernel) (by simp [lg_sl, Value.category]) (fun X C hR => ?_)
  refine xlocals (lv' := [(0, .ref (a 3)), (1, .ref (a (8 + j))), (2, .int sd), (3, .int tt)]) rfl ?_
  have fn24 := hW.n24; have fm60 := hW.m60; have fk2 := hW.k2; have fu1 := hW.u1; have fu9 := hW.u9; have fv1 := hW.v1; have fv9 := hW.v9
  refine xiload_n C 2 rfl dX4_changes_0 ?_
  refine xiload_n C 3 rfl dX4_changes_1 ?_
  refine xcSR C (c_X4_mixed sd tt) sk_X4_mixed xml_X4_34 ⟨⟨Nat.le_of_ble_eq_true rfl, Nat.le_of_ble_eq_true rfl⟩, ⟨rfl, rfl⟩, ⟨Nat.zero_le _, Nat.zero_le _⟩⟩ rfl (Nat.le_of_ble_eq_true rfl) dX4_changes_2 ?_
  refine xistore (lv' := [(4, .int (mixI sd tt)), (0, .ref (a 3)), (1, .ref (a (8 + j))), (2, .int sd), (3, .int tt)]) C dX4_changes_5 (by decide) rfl ?_
  refine xaload_n C 1 rfl dX4_changes_7 ?_
  refine xiload C 0 rfl dX4_changes_8 ?_
  refine xcVR C (c_X4_placeOf hK hW hn (mixI sd tt)) yk_X4_placeOf 3 rfl rfl xml_X4_38 ⟨⟨Nat.le_of_ble_eq_true rfl, Nat.le_of_ble_eq_true rfl⟩, ⟨rfl, rfl⟩, ⟨Nat.zero_le _, Nat.zero_le _⟩⟩ rfl (Nat.le_of_ble_eq_true rfl) dX4_changes_10 ?_
  have fp10 : plN K (mixI sd tt) < kn K := Nat.mod_lt _ hn
  refine xistore (lv' := [(5, .int (nI (plN K (mixI sd tt)))), (4, .int (mixI sd tt)), (0, .ref (a 3)), (1, .ref (a (8 + j))), (2, .int sd), (3, .int tt)]) C dX4_changes_13 (by decide) rfl ?_
  refine xaload_n C 3 rfl dX4_changes_15 ?_
  refine xiload C 0 rfl dX4_changes_16 ?_
  refine xa_st C hW j h6 hj hS (plN K (mixI sd tt)) (by omega) dX4_changes_18 ?_
  have fb18 := (hS (plN K (mixI sd tt)) (by omega)).2
  refine xistore (lv' := [(6, .int (nI (f (plN K (mixI sd tt))))), (5, .int (nI (plN K (mixI sd tt)))), (4, .int (mixI sd tt)), (0, .ref (a 3)), (1, .ref (a (8 + j))), (2, .int sd), (3, .int tt)]) C dX4_changes_19 (by decide) rfl ?_
  refine xaload_n C 4 rfl dX4_changes_21 ?_
  refine xiload C 1 rfl dX4_changes_22 ?_
  refine xaload_n C 3 rfl dX4_changes_24 ?_
  refine xaload_n C 4 rfl dX4_changes_25 ?_
  refine xiload C 1 rfl dX4_changes_26 ?_
  refine xiload C 2 rfl dX4_changes_28 ?_
  refine xcSR C (c_X4_lotOf (mixI sd tt)) sk_X4_lotOf xml_X4_42 ⟨⟨Nat.le_of_ble_eq_true rfl, Nat.le_of_ble_eq_true rfl⟩, ⟨rfl, rfl⟩, ⟨Nat.zero_le _, Nat.zero_le _⟩⟩ rfl (Nat.le_of_ble_eq_true rfl) dX4_changes_30 ?_
  have fl30 := lotN_lt (mixI sd tt)
  refine xcVE C (c_X4_chosen hK hW j h6 hj hS (plN K (mixI sd tt)) (by omega) (lotN (mixI sd tt)) (by omega)) yk_X4_chosen 3 rfl rfl xml_X4_45 ⟨⟨Nat.le_of_ble_eq_true rfl, Nat.le_of_ble_eq_true rfl⟩, ⟨rfl, rfl⟩, ⟨Nat.zero_le _, Nat.zero_le _⟩⟩ rfl (Nat.le_of_ble_eq_true rfl) dX4_changes_33 (fun vE wE hE => ?_)
  obtain ⟨rfl, LB, rfl⟩ := hE
  have hc5 : (chN K f (plN K (mixI sd tt)) (lotN (mixI sd tt))) ≤ 5 := chN_le hW (by omega) (hS _ (by omega)).2
  refine xs_st C j (by omega) (by omega) (plN K (mixI sd tt)) (by omega) dX4_changes_36 ?_
  obtain ⟨FA, eFA⟩ : ∃ z : Nat → Nat → Int32, z = va_up F j (upd (F j) (plN K (mixI sd tt)) (nI (chN K f (plN K (mixI sd tt)) (lotN (mixI sd tt))))) := ⟨_, rfl⟩
  refine xworld (ws' := WX a t I FA LB) (by rw [eFA]) ?_
  have hKA : CFG K I FA := by rw [eFA]; exact hK.upF h6 hj _
  have hSA : RA (kn K) (FA j) (tkN K sd f tt) := by rw [eFA, va_up_self]; exact hS.up hc5
  refine xaload_n C 4 rfl dX4_changes_37 ?_
  refine xiload C 1 rfl dX4_changes_38 ?_
  refine xa_st C hW j h6 hj hSA (plN K (mixI sd tt)) (by omega) dX4_changes_40 ?_
  have fb40 := (hSA (plN K (mixI sd tt)) (by omega)).2
  refine xtopi (y := nI ((chN K f (plN K (mixI sd tt)) (lotN (mixI sd tt))))) (by rw [show tkN K sd f tt (plN K (mixI sd tt)) = (chN K f (plN K (mixI sd tt)) (lotN (mixI sd tt))) from va_up_self _ _ _]) ?_
  refine xiload C 0 rfl dX4_changes_41 ?_
  refine xicmp_eqN C 50 dX4_changes_43 (by decide) (by omega) (by omega) (fun h43 => ?_) (fun h43 => ?_)
  ·
    refine xiconst (v := nI 0) C dX4_changes_50 (by decide) ?_
    exact xret C hR (by rfl) dX4_changes_51 (⟨_, rfl, by rw [bn_f (P := chgP K sd f tt) (fun q => q h43)], FA, _, rfl, fun q hq => by rw [eFA, va_up_ne _ _ hq], hSA⟩)
  ·
    refine xiconst (v := nI 1) C dX4_changes_46 (by decide) ?_
    refine xgoto C 51 dX4_changes_47 (by decide) ?_
    exact xret C hR (by rfl) dX4_changes_51 (⟨_, rfl, by rw [bn_t (P := chgP K sd f tt) h43], FA, _, rfl, fun q hq => by rw [eFA, va_up_ne _ _ hq], hSA⟩)
