/-! Rules: most, numberOfHeight, isHeld, placeWeight, linkWeight (written by my program parts_x2.py). -/
theorem mostN_le {K : Cfg} (hW : WFK K) {p : Nat} (hp : p < kn K) : mostN K p ≤ 5 := by
  have := hW.top5 hp
  unfold mostN
  split <;> omega
theorem mostN_pos {K : Cfg} (hW : WFK K) {p : Nat} (hp : p < kn K) : 1 ≤ mostN K p := by
  have := (hW.pl hp).1
  unfold mostN
  split <;> omega
theorem nohN_le {K : Cfg} {p h : Nat} (hh : h ≤ 5) : nohN K p h ≤ 5 := by
  unfold nohN
  split <;> omega
theorem pwN_le {K : Cfg} (hW : WFK K) (p x : Nat) : pwN K p x ≤ 9 := by
  have := hW.u9; have := hW.v9
  unfold pwN
  split
  · omega
  · split
    · split <;> omega
    · omega
theorem lwN_le {K : Cfg} (hW : WFK K) (x y : Nat) : lwN K x y ≤ 9 := by
  have := hW.u9; have := hW.v9
  unfold lwN
  split
  · split <;> omega
  · split
    · split <;> omega
    · split <;> omega
theorem hdx {x y : Nat} (hx : x ≤ 5) (hy : y ≤ 6) (h : nI x = nI y - 1) : x + 1 = y := by
  have h2 : nI x + 1 = nI y := by rw [h]; simp
  rw [nI_1] at h2
  exact (nI_eq (by omega) (by omega)).mp h2
theorem hdx2 {x y : Nat} (h : x + 1 = y) : nI x = nI y - 1 := by subst h; rw [nI_pred]
theorem hdm {y : Nat} (h : ¬ nI y - 1 = -1) : ¬ y = 0 := fun q => h (by rw [q]; decide +kernel)
theorem hdm2 {y : Nat} (hy : y ≤ 6) (h : nI y - 1 = -1) : y = 0 := by
  have h2 : nI y = nI 0 := by
    have : nI y = (nI y - 1) + 1 := by simp
    rw [this, h]; decide +kernel
  exact (nI_eq (by omega) (by omega)).mp h2
theorem gt1 {x y : Nat} (hx : x ≤ 5) (hy : y ≤ 5) (h : nI 1 < nI x - nI y) : y + 1 < x := by
  have h1 := Int32.lt_iff_toInt_lt.mp h
  rw [pk_sub_toInt (by omega) (by omega), nI_toInt (by omega)] at h1
  omega
theorem ngt1 {x y : Nat} (hx : x ≤ 5) (hy : y ≤ 5) (h : ¬ nI 1 < nI x - nI y) : x ≤ y + 1 := by
  have h1 : ¬ (nI 1).toInt < (nI x - nI y).toInt := fun q => h (Int32.lt_iff_toInt_lt.mpr q)
  rw [pk_sub_toInt (by omega) (by omega), nI_toInt (by omega)] at h1
  omega
theorem dX2_most_0 : decode cX2_most 0 = .ok (.aload_n 0, 1) := by decide +kernel
theorem dX2_most_1 : decode cX2_most 1 = .ok (.getfield 18, 3) := by decide +kernel
theorem dX2_most_4 : decode cX2_most 4 = .ok (.iconst 1, 1) := by decide +kernel
theorem dX2_most_5 : decode cX2_most 5 = .ok (.if_icmp .ne 15, 3) := by decide +kernel
theorem dX2_most_8 : decode cX2_most 8 = .ok (.aload_n 0, 1) := by decide +kernel
theorem dX2_most_9 : decode cX2_most 9 = .ok (.getfield 32, 3) := by decide +kernel
theorem dX2_most_12 : decode cX2_most 12 = .ok (.getfield 36, 3) := by decide +kernel
theorem dX2_most_15 : decode cX2_most 15 = .ok (.iload_n 1, 1) := by decide +kernel
theorem dX2_most_16 : decode cX2_most 16 = .ok (.iaload, 1) := by decide +kernel
theorem dX2_most_17 : decode cX2_most 17 = .ok (.goto 4, 3) := by decide +kernel
theorem dX2_most_20 : decode cX2_most 20 = .ok (.iconst 1, 1) := by decide +kernel
theorem dX2_most_21 : decode cX2_most 21 = .ok (.ireturn, 1) := by decide +kernel
def rX2_most : Room := { frames := 0, cells := 0, slots := 0, locals := 0 }
theorem yk_X2_most : YK yX2_most cX2_most 2 (some .int) 1 := ⟨xim_X2_most, xse_X2_most, xin_X2, xco_X2_most, by decide +kernel⟩
set_option maxRecDepth 4000 in
theorem c_X2_most {l : Launch} {D : va_G} {t : Nat → ClassId} {a : Nat → Nat} {I : Nat → Int32} {F : Nat → Nat → Int32} {L : Nat → Int64} {K : Cfg} (hK : CFG K I F) (hW : WFK K) (p : Nat) (hp : p < kn K) : CT l D t yX2_most cX2_most 2 (some .int) rX2_most 0 0 [.ref (a 2), .int (nI p)] (WX a t I F L) (RP (.int (nI (mostN K p))) (WX a t I F L)) := by
  refine CT.of (by decide +kernel) (by simp [lg_sl, Value.category]) (fun X C hR => ?_)
  refine xlocals (lv' := [(0, .ref (a 2)), (1, .int (nI p))]) rfl ?_
  have fn24 := hW.n24; have fm60 := hW.m60; have fk2 := hW.k2; have fu1 := hW.u1; have fu9 := hW.u9; have fv1 := hW.v1; have fv9 := hW.v9
  refine xaload_n C 0 rfl dX2_most_0 ?_
  refine gX2_18K C hK dX2_most_1 ?_
  refine xiconst (v := nI 1) C dX2_most_4 (by decide) ?_
  refine xicmp_neN C 20 dX2_most_5 (by decide) (by omega) (by omega) (fun h5 => ?_) (fun h5 => ?_)
  ·
    refine xiconst (v := nI 1) C dX2_most_20 (by decide) ?_
    exact xret C hR (rfl) dX2_most_21 (RPn (by simp [mostN, h5]))
  ·
    refine xaload_n C 0 rfl dX2_most_8 ?_
    refine gX2_32 C dX2_most_9 ?_
    refine gX2_36 C dX2_most_12 ?_
    refine xiload_n C 1 rfl dX2_most_15 ?_
    refine xa_top C hK hW p (by omega) dX2_most_16 ?_
    have fb16 := (hW.top5 (by omega))
    refine xgoto C 21 dX2_most_17 (by decide) ?_
    exact xret C hR (rfl) dX2_most_21 (RPn (by simp [mostN, h5]))
theorem dX2_numberOfHeight_0 : decode cX2_numberOfHeight 0 = .ok (.aload_n 0, 1) := by decide +kernel
theorem dX2_numberOfHeight_1 : decode cX2_numberOfHeight 1 = .ok (.getfield 18, 3) := by decide +kernel
theorem dX2_numberOfHeight_4 : decode cX2_numberOfHeight 4 = .ok (.iconst 2, 1) := by decide +kernel
theorem dX2_numberOfHeight_5 : decode cX2_numberOfHeight 5 = .ok (.if_icmp .ne 22, 3) := by decide +kernel
theorem dX2_numberOfHeight_8 : decode cX2_numberOfHeight 8 = .ok (.aload_n 0, 1) := by decide +kernel
theorem dX2_numberOfHeight_9 : decode cX2_numberOfHeight 9 = .ok (.getfield 32, 3) := by decide +kernel
theorem dX2_numberOfHeight_12 : decode cX2_numberOfHeight 12 = .ok (.getfield 41, 3) := by decide +kernel
theorem dX2_numberOfHeight_15 : decode cX2_numberOfHeight 15 = .ok (.iload_n 1, 1) := by decide +kernel
theorem dX2_numberOfHeight_16 : decode cX2_numberOfHeight 16 = .ok (.iaload, 1) := by decide +kernel
theorem dX2_numberOfHeight_17 : decode cX2_numberOfHeight 17 = .ok (.iconst 1, 1) := by decide +kernel
theorem dX2_numberOfHeight_18 : decode cX2_numberOfHeight 18 = .ok (.if_icmp .ne 9, 3) := by decide +kernel
theorem dX2_numberOfHeight_21 : decode cX2_numberOfHeight 21 = .ok (.iconst 1, 1) := by decide +kernel
theorem dX2_numberOfHeight_22 : decode cX2_numberOfHeight 22 = .ok (.iload_n 2, 1) := by decide +kernel
theorem dX2_numberOfHeight_23 : decode cX2_numberOfHeight 23 = .ok (.isub, 1) := by decide +kernel
theorem dX2_numberOfHeight_24 : decode cX2_numberOfHeight 24 = .ok (.goto 4, 3) := by decide +kernel
theorem dX2_numberOfHeight_27 : decode cX2_numberOfHeight 27 = .ok (.iload_n 2, 1) := by decide +kernel
theorem dX2_numberOfHeight_28 : decode cX2_numberOfHeight 28 = .ok (.ireturn, 1) := by decide +kernel
def rX2_numberOfHeight : Room := { frames := 0, cells := 0, slots := 0, locals := 0 }
theorem yk_X2_numberOfHeight : YK yX2_numberOfHeight cX2_numberOfHeight 3 (some .int) 2 := ⟨xim_X2_numberOfHeight, xse_X2_numberOfHeight, xin_X2, xco_X2_numberOfHeight, by decide +kernel⟩
set_option maxRecDepth 4000 in
theorem c_X2_numberOfHeight {l : Launch} {D : va_G} {t : Nat → ClassId} {a : Nat → Nat} {I : Nat → Int32} {F : Nat → Nat → Int32} {L : Nat → Int64} {K : Cfg} (hK : CFG K I F) (hW : WFK K) (p : Nat) (hp : p < kn K) (h : Nat) (hh : h ≤ mostN K p) : CT l D t yX2_numberOfHeight cX2_numberOfHeight 3 (some .int) rX2_numberOfHeight 0 0 [.ref (a 2), .int (nI p), .int (nI h)] (WX a t I F L) (RP (.int (nI (nohN K p h))) (WX a t I F L)) := by
  refine CT.of (by decide +kernel) (by simp [lg_sl, Value.category]) (fun X C hR => ?_)
  refine xlocals (lv' := [(0, .ref (a 2)), (1, .int (nI p)), (2, .int (nI h))]) rfl ?_
  have fn24 := hW.n24; have fm60 := hW.m60; have fk2 := hW.k2; have fu1 := hW.u1; have fu9 := hW.u9; have fv1 := hW.v1; have fv9 := hW.v9
  refine xaload_n C 0 rfl dX2_numberOfHeight_0 ?_
  refine gX2_18K C hK dX2_numberOfHeight_1 ?_
  refine xiconst (v := nI 2) C dX2_numberOfHeight_4 (by decide) ?_
  refine xicmp_neN C 27 dX2_numberOfHeight_5 (by decide) (by omega) (by omega) (fun h5 => ?_) (fun h5 => ?_)
  ·
    refine xiload_n C 2 rfl dX2_numberOfHeight_27 ?_
    exact xret C hR (rfl) dX2_numberOfHeight_28 (RPn (by simp [nohN, h5]))
  ·
    refine xaload_n C 0 rfl dX2_numberOfHeight_8 ?_
    refine gX2_32 C dX2_numberOfHeight_9 ?_
    refine gX2_41 C dX2_numberOfHeight_12 ?_
    refine xiload_n C 1 rfl dX2_numberOfHeight_15 ?_
    refine xa_si C hK hW p (by omega) dX2_numberOfHeight_16 ?_
    have fb16 := (hW.si1 (by omega))
    refine xiconst (v := nI 1) C dX2_numberOfHeight_17 (by decide) ?_
    refine xicmp_neN C 27 dX2_numberOfHeight_18 (by decide) (by omega) (by omega) (fun h18 => ?_) (fun h18 => ?_)
    ·
      refine xiload_n C 2 rfl dX2_numberOfHeight_27 ?_
      exact xret C hR (rfl) dX2_numberOfHeight_28 (RPn (by simp [nohN, h5, h18]))
    ·
      refine xiconst (v := nI 1) C dX2_numberOfHeight_21 (by decide) ?_
      refine xiload_n C 2 rfl dX2_numberOfHeight_22 ?_
      refine xisubN C (by unfold mostN at hh; rw [if_neg (by omega)] at hh; omega) dX2_numberOfHeight_23 ?_
      refine xgoto C 28 dX2_numberOfHeight_24 (by decide) ?_
      exact xret C hR (rfl) dX2_numberOfHeight_28 (RPn (by simp [nohN, h5, h18]))
theorem dX2_isHeld_0 : decode cX2_isHeld 0 = .ok (.aload_n 0, 1) := by decide +kernel
theorem dX2_isHeld_1 : decode cX2_isHeld 1 = .ok (.getfield 18, 3) := by decide +kernel
theorem dX2_isHeld_4 : decode cX2_isHeld 4 = .ok (.iconst 1, 1) := by decide +kernel
theorem dX2_isHeld_5 : decode cX2_isHeld 5 = .ok (.if_icmp .ne 20, 3) := by decide +kernel
theorem dX2_isHeld_8 : decode cX2_isHeld 8 = .ok (.aload_n 0, 1) := by decide +kernel
theorem dX2_isHeld_9 : decode cX2_isHeld 9 = .ok (.getfield 32, 3) := by decide +kernel
theorem dX2_isHeld_12 : decode cX2_isHeld 12 = .ok (.getfield 44, 3) := by decide +kernel
theorem dX2_isHeld_15 : decode cX2_isHeld 15 = .ok (.iload_n 1, 1) := by decide +kernel
theorem dX2_isHeld_16 : decode cX2_isHeld 16 = .ok (.iaload, 1) := by decide +kernel
theorem dX2_isHeld_17 : decode cX2_isHeld 17 = .ok (.iconst (-1), 1) := by decide +kernel
theorem dX2_isHeld_18 : decode cX2_isHeld 18 = .ok (.if_icmp .eq 7, 3) := by decide +kernel
theorem dX2_isHeld_21 : decode cX2_isHeld 21 = .ok (.iconst 1, 1) := by decide +kernel
theorem dX2_isHeld_22 : decode cX2_isHeld 22 = .ok (.goto 4, 3) := by decide +kernel
theorem dX2_isHeld_25 : decode cX2_isHeld 25 = .ok (.iconst 0, 1) := by decide +kernel
theorem dX2_isHeld_26 : decode cX2_isHeld 26 = .ok (.ireturn, 1) := by decide +kernel
def rX2_isHeld : Room := { frames := 0, cells := 0, slots := 0, locals := 0 }
theorem yk_X2_isHeld : YK yX2_isHeld cX2_isHeld 2 (some .boolean) 1 := ⟨xim_X2_isHeld, xse_X2_isHeld, xin_X2, xco_X2_isHeld, by decide +kernel⟩
set_option maxRecDepth 4000 in
theorem c_X2_isHeld {l : Launch} {D : va_G} {t : Nat → ClassId} {a : Nat → Nat} {I : Nat → Int32} {F : Nat → Nat → Int32} {L : Nat → Int64} {K : Cfg} (hK : CFG K I F) (hW : WFK K) (p : Nat) (hp : p < kn K) : CT l D t yX2_isHeld cX2_isHeld 2 (some .boolean) rX2_isHeld 0 0 [.ref (a 2), .int (nI p)] (WX a t I F L) (RP (.int (nI (bn (kk K = 1 ∧ khd K p ≠ 0)))) (WX a t I F L)) := by
  refine CT.of (by decide +kernel) (by simp [lg_sl, Value.category]) (fun X C hR => ?_)
  refine xlocals (lv' := [(0, .ref (a 2)), (1, .int (nI p))]) rfl ?_
  have fn24 := hW.n24; have fm60 := hW.m60; have fk2 := hW.k2; have fu1 := hW.u1; have fu9 := hW.u9; have fv1 := hW.v1; have fv9 := hW.v9
  refine xaload_n C 0 rfl dX2_isHeld_0 ?_
  refine gX2_18K C hK dX2_isHeld_1 ?_
  refine xiconst (v := nI 1) C dX2_isHeld_4 (by decide) ?_
  refine xicmp_neN C 25 dX2_isHeld_5 (by decide) (by omega) (by omega) (fun h5 => ?_) (fun h5 => ?_)
  ·
    refine xiconst (v := nI 0) C dX2_isHeld_25 (by decide) ?_
    exact xret C hR (by rfl) dX2_isHeld_26 (RPn ((bn_f (fun q => h5 q.1)).symm))
  ·
    refine xaload_n C 0 rfl dX2_isHeld_8 ?_
    refine gX2_32 C dX2_isHeld_9 ?_
    refine gX2_44 C dX2_isHeld_12 ?_
    refine xiload_n C 1 rfl dX2_isHeld_15 ?_
    refine xa_hd C hK hW p (by omega) dX2_isHeld_16 ?_
    have fb16 := (hW.hd6 (by omega))
    refine xiconst (v := -1) C dX2_isHeld_17 (by decide) ?_
    refine xicmp_eq C 25 dX2_isHeld_18 (by decide) (fun h18 => ?_) (fun h18 => ?_)
    ·
      refine xiconst (v := nI 0) C dX2_isHeld_25 (by decide) ?_
      exact xret C hR (by rfl) dX2_isHeld_26 (RPn ((bn_f (fun q => q.2 (hdm2 (by omega) h18))).symm))
    ·
      refine xiconst (v := nI 1) C dX2_isHeld_21 (by decide) ?_
      refine xgoto C 26 dX2_isHeld_22 (by decide) ?_
      exact xret C hR (by rfl) dX2_isHeld_26 (RPn ((bn_t ⟨h5, hdm h18⟩).symm))
theorem dX2_placeWeight_0 : decode cX2_placeWeight 0 = .ok (.iload_n 2, 1) := by decide +kernel
theorem dX2_placeWeight_1 : decode cX2_placeWeight 1 = .ok (.ifCond .lt 33, 3) := by decide +kernel
theorem dX2_placeWeight_4 : decode cX2_placeWeight 4 = .ok (.iload_n 2, 1) := by decide +kernel
theorem dX2_placeWeight_5 : decode cX2_placeWeight 5 = .ok (.aload_n 0, 1) := by decide +kernel
theorem dX2_placeWeight_6 : decode cX2_placeWeight 6 = .ok (.iload_n 1, 1) := by decide +kernel
theorem dX2_placeWeight_7 : decode cX2_placeWeight 7 = .ok (.invokevirtual 47, 3) := by decide +kernel
theorem dX2_placeWeight_10 : decode cX2_placeWeight 10 = .ok (.if_icmp .gt 24, 3) := by decide +kernel
theorem dX2_placeWeight_13 : decode cX2_placeWeight 13 = .ok (.aload_n 0, 1) := by decide +kernel
theorem dX2_placeWeight_14 : decode cX2_placeWeight 14 = .ok (.iload_n 1, 1) := by decide +kernel
theorem dX2_placeWeight_15 : decode cX2_placeWeight 15 = .ok (.invokevirtual 51, 3) := by decide +kernel
theorem dX2_placeWeight_18 : decode cX2_placeWeight 18 = .ok (.ifCond .eq 18, 3) := by decide +kernel
theorem dX2_placeWeight_21 : decode cX2_placeWeight 21 = .ok (.iload_n 2, 1) := by decide +kernel
theorem dX2_placeWeight_22 : decode cX2_placeWeight 22 = .ok (.aload_n 0, 1) := by decide +kernel
theorem dX2_placeWeight_23 : decode cX2_placeWeight 23 = .ok (.getfield 32, 3) := by decide +kernel
theorem dX2_placeWeight_26 : decode cX2_placeWeight 26 = .ok (.getfield 44, 3) := by decide +kernel
theorem dX2_placeWeight_29 : decode cX2_placeWeight 29 = .ok (.iload_n 1, 1) := by decide +kernel
theorem dX2_placeWeight_30 : decode cX2_placeWeight 30 = .ok (.iaload, 1) := by decide +kernel
theorem dX2_placeWeight_31 : decode cX2_placeWeight 31 = .ok (.if_icmp .eq 5, 3) := by decide +kernel
theorem dX2_placeWeight_34 : decode cX2_placeWeight 34 = .ok (.iconst 0, 1) := by decide +kernel
theorem dX2_placeWeight_35 : decode cX2_placeWeight 35 = .ok (.ireturn, 1) := by decide +kernel
theorem dX2_placeWeight_36 : decode cX2_placeWeight 36 = .ok (.aload_n 0, 1) := by decide +kernel
theorem dX2_placeWeight_37 : decode cX2_placeWeight 37 = .ok (.getfield 18, 3) := by decide +kernel
theorem dX2_placeWeight_40 : decode cX2_placeWeight 40 = .ok (.iconst 2, 1) := by decide +kernel
theorem dX2_placeWeight_41 : decode cX2_placeWeight 41 = .ok (.if_icmp .eq 5, 3) := by decide +kernel
theorem dX2_placeWeight_44 : decode cX2_placeWeight 44 = .ok (.iconst 1, 1) := by decide +kernel
theorem dX2_placeWeight_45 : decode cX2_placeWeight 45 = .ok (.ireturn, 1) := by decide +kernel
theorem dX2_placeWeight_46 : decode cX2_placeWeight 46 = .ok (.iload_n 2, 1) := by decide +kernel
theorem dX2_placeWeight_47 : decode cX2_placeWeight 47 = .ok (.iconst 1, 1) := by decide +kernel
theorem dX2_placeWeight_48 : decode cX2_placeWeight 48 = .ok (.if_icmp .ne 10, 3) := by decide +kernel
theorem dX2_placeWeight_51 : decode cX2_placeWeight 51 = .ok (.aload_n 0, 1) := by decide +kernel
theorem dX2_placeWeight_52 : decode cX2_placeWeight 52 = .ok (.getfield 22, 3) := by decide +kernel
theorem dX2_placeWeight_55 : decode cX2_placeWeight 55 = .ok (.goto 7, 3) := by decide +kernel
theorem dX2_placeWeight_58 : decode cX2_placeWeight 58 = .ok (.aload_n 0, 1) := by decide +kernel
theorem dX2_placeWeight_59 : decode cX2_placeWeight 59 = .ok (.getfield 25, 3) := by decide +kernel
theorem dX2_placeWeight_62 : decode cX2_placeWeight 62 = .ok (.ireturn, 1) := by decide +kernel
def rX2_placeWeight : Room := { frames := 1, cells := 0, slots := 0, locals := 21 }
theorem yk_X2_placeWeight : YK yX2_placeWeight cX2_placeWeight 3 (some .int) 2 := ⟨xim_X2_placeWeight, xse_X2_placeWeight, xin_X2, xco_X2_placeWeight, by decide +kernel⟩
set_option maxRecDepth 4000 in
theorem c_X2_placeWeight {l : Launch} {D : va_G} {t : Nat → ClassId} {a : Nat → Nat} {I : Nat → Int32} {F : Nat → Nat → Int32} {L : Nat → Int64} {K : Cfg} (hK : CFG K I F) (hW : WFK K) (p : Nat) (hp : p < kn K) (x : Nat) (hx : x ≤ 5) : CT l D t yX2_placeWeight cX2_placeWeight 3 (some .int) rX2_placeWeight 0 0 [.ref (a 2), .int (nI p), .int (nI x)] (WX a t I F L) (RP (.int (nI (pwN K p x))) (WX a t I F L)) := by
  refine CT.of (by decide +kernel) (by simp [lg_sl, Value.category]) (fun X C hR => ?_)
  refine xlocals (lv' := [(0, .ref (a 2)), (1, .int (nI p)), (2, .int (nI x))]) rfl ?_
  have fn24 := hW.n24; have fm60 := hW.m60; have fk2 := hW.k2; have fu1 := hW.u1; have fu9 := hW.u9; have fv1 := hW.v1; have fv9 := hW.v9
  refine xiload_n C 2 rfl dX2_placeWeight_0 ?_
  refine xif_ltN C 34 dX2_placeWeight_1 (by decide) (by omega) ?_
  refine xiload_n C 2 rfl dX2_placeWeight_4 ?_
  refine xaload_n C 0 rfl dX2_placeWeight_5 ?_
  refine xiload_n C 1 rfl dX2_placeWeight_6 ?_
  refine xcVR C (c_X2_most hK hW p (by omega)) yk_X2_most 2 rfl rfl xml_X2_47 ⟨⟨Nat.le_of_ble_eq_true rfl, Nat.le_of_ble_eq_true rfl⟩, ⟨rfl, rfl⟩, ⟨Nat.zero_le _, Nat.zero_le _⟩⟩ rfl (Nat.le_of_ble_eq_true rfl) dX2_placeWeight_7 ?_
  have fm7 := mostN_le hW (show p < kn K by omega)
  refine xicmp_gtN C 34 dX2_placeWeight_10 (by decide) (by omega) (by omega) (fun h10 => ?_) (fun h10 => ?_)
  ·
    refine xiconst (v := nI 0) C dX2_placeWeight_34 (by decide) ?_
    exact xret C hR (rfl) dX2_placeWeight_35 (RPn (by unfold pwN; rw [if_pos (Or.inl h10)]))
  ·
    refine xaload_n C 0 rfl dX2_placeWeight_13 ?_
    refine xiload_n C 1 rfl dX2_placeWeight_14 ?_
    refine xcVR C (c_X2_isHeld hK hW p (by omega)) yk_X2_isHeld 2 rfl rfl xml_X2_51 ⟨⟨Nat.le_of_ble_eq_true rfl, Nat.le_of_ble_eq_true rfl⟩, ⟨rfl, rfl⟩, ⟨Nat.zero_le _, Nat.zero_le _⟩⟩ rfl (Nat.le_of_ble_eq_true rfl) dX2_placeWeight_15 ?_
    have fi15 := bn_le (kk K = 1 ∧ khd K p ≠ 0)
    refine xif_eqN C 36 dX2_placeWeight_18 (by decide) (bn_lt _) (fun h18 => ?_) (fun h18 => ?_)
    ·
      have h18 := bn_0 h18
      refine xaload_n C 0 rfl dX2_placeWeight_36 ?_
      refine gX2_18K C hK dX2_placeWeight_37 ?_
      refine xiconst (v := nI 2) C dX2_placeWeight_40 (by decide) ?_
      refine xicmp_eqN C 46 dX2_placeWeight_41 (by decide) (by omega) (by omega) (fun h41 => ?_) (fun h41 => ?_)
      ·
        refine xiload_n C 2 rfl dX2_placeWeight_46 ?_
        refine xiconst (v := nI 1) C dX2_placeWeight_47 (by decide) ?_
        refine xicmp_neN C 58 dX2_placeWeight_48 (by decide) (by omega) (by omega) (fun h48 => ?_) (fun h48 => ?_)
        ·
          refine xaload_n C 0 rfl dX2_placeWeight_58 ?_
          refine gX2_25K C hK dX2_placeWeight_59 ?_
          exact xret C hR (rfl) dX2_placeWeight_62 (RPn (by unfold pwN; rw [if_neg (fun q => q.elim (by omega) (fun q => h18 ⟨q.1, q.2.1⟩)), if_pos h41, if_neg h48]))
        ·
          refine xaload_n C 0 rfl dX2_placeWeight_51 ?_
          refine gX2_22K C hK dX2_placeWeight_52 ?_
          refine xgoto C 62 dX2_placeWeight_55 (by decide) ?_
          exact xret C hR (rfl) dX2_placeWeight_62 (RPn (by unfold pwN; rw [if_neg (fun q => q.elim (by omega) (fun q => h18 ⟨q.1, q.2.1⟩)), if_pos h41, if_pos h48]))
      ·
        refine xiconst (v := nI 1) C dX2_placeWeight_44 (by decide) ?_
        exact xret C hR (rfl) dX2_placeWeight_45 (RPn (by unfold pwN; rw [if_neg (fun q => q.elim (by omega) (fun q => h18 ⟨q.1, q.2.1⟩)), if_neg h41]))
    ·
      have h18 := bn_1 h18
      refine xiload_n C 2 rfl dX2_placeWeight_21 ?_
      refine xaload_n C 0 rfl dX2_placeWeight_22 ?_
      refine gX2_32 C dX2_placeWeight_23 ?_
      refine gX2_44 C dX2_placeWeight_26 ?_
      refine xiload_n C 1 rfl dX2_placeWeight_29 ?_
      refine xa_hd C hK hW p (by omega) dX2_placeWeight_30 ?_
      have fb30 := (hW.hd6 (by omega))
      refine xicmp_eq C 36 dX2_placeWeight_31 (by decide) (fun h31 => ?_) (fun h31 => ?_)
      ·
        have h31 := hdx (by omega) (by omega) h31
        refine xaload_n C 0 rfl dX2_placeWeight_36 ?_
        refine gX2_18K C hK dX2_placeWeight_37 ?_
        refine xiconst (v := nI 2) C dX2_placeWeight_40 (by decide) ?_
        refine xicmp_eqN C 46 dX2_placeWeight_41 (by decide) (by omega) (by omega) (fun h41 => ?_) (fun h41 => ?_)
        ·
          refine xiload_n C 2 rfl dX2_placeWeight_46 ?_
          refine xiconst (v := nI 1) C dX2_placeWeight_47 (by decide) ?_
          refine xicmp_neN C 58 dX2_placeWeight_48 (by decide) (by omega) (by omega) (fun h48 => ?_) (fun h48 => ?_)
          ·
            refine xaload_n C 0 rfl dX2_placeWeight_58 ?_
            refine gX2_25K C hK dX2_placeWeight_59 ?_
            exact xret C hR (rfl) dX2_placeWeight_62 (RPn (by unfold pwN; rw [if_neg (by omega), if_pos h41, if_neg h48]))
          ·
            refine xaload_n C 0 rfl dX2_placeWeight_51 ?_
            refine gX2_22K C hK dX2_placeWeight_52 ?_
            refine xgoto C 62 dX2_placeWeight_55 (by decide) ?_
            exact xret C hR (rfl) dX2_placeWeight_62 (RPn (by unfold pwN; rw [if_neg (by omega), if_pos h41, if_pos h48]))
        ·
          refine xiconst (v := nI 1) C dX2_placeWeight_44 (by decide) ?_
          exact xret C hR (rfl) dX2_placeWeight_45 (RPn (by unfold pwN; rw [if_neg (by omega), if_neg h41]))
      ·
        have h31 := fun q => h31 (hdx2 q)
        refine xiconst (v := nI 0) C dX2_placeWeight_34 (by decide) ?_
        exact xret C hR (rfl) dX2_placeWeight_35 (RPn (by unfold pwN; rw [if_pos (Or.inr ⟨h18.1, h18.2, h31⟩)]))
theorem dX2_linkWeight_0 : decode cX2_linkWeight 0 = .ok (.aload_n 0, 1) := by decide +kernel
theorem dX2_linkWeight_1 : decode cX2_linkWeight 1 = .ok (.getfield 18, 3) := by decide +kernel
theorem dX2_linkWeight_4 : decode cX2_linkWeight 4 = .ok (.lookupswitch 65 #[(0, 28), (1, 45)], 28) := by decide +kernel
theorem dX2_linkWeight_32 : decode cX2_linkWeight 32 = .ok (.iload_n 1, 1) := by decide +kernel
theorem dX2_linkWeight_33 : decode cX2_linkWeight 33 = .ok (.iload_n 2, 1) := by decide +kernel
theorem dX2_linkWeight_34 : decode cX2_linkWeight 34 = .ok (.if_icmp .ne 10, 3) := by decide +kernel
theorem dX2_linkWeight_37 : decode cX2_linkWeight 37 = .ok (.aload_n 0, 1) := by decide +kernel
theorem dX2_linkWeight_38 : decode cX2_linkWeight 38 = .ok (.getfield 22, 3) := by decide +kernel
theorem dX2_linkWeight_41 : decode cX2_linkWeight 41 = .ok (.goto 7, 3) := by decide +kernel
theorem dX2_linkWeight_44 : decode cX2_linkWeight 44 = .ok (.aload_n 0, 1) := by decide +kernel
theorem dX2_linkWeight_45 : decode cX2_linkWeight 45 = .ok (.getfield 25, 3) := by decide +kernel
theorem dX2_linkWeight_48 : decode cX2_linkWeight 48 = .ok (.ireturn, 1) := by decide +kernel
theorem dX2_linkWeight_49 : decode cX2_linkWeight 49 = .ok (.iload_n 1, 1) := by decide +kernel
theorem dX2_linkWeight_50 : decode cX2_linkWeight 50 = .ok (.iload_n 2, 1) := by decide +kernel
theorem dX2_linkWeight_51 : decode cX2_linkWeight 51 = .ok (.isub, 1) := by decide +kernel
theorem dX2_linkWeight_52 : decode cX2_linkWeight 52 = .ok (.iconst 1, 1) := by decide +kernel
theorem dX2_linkWeight_53 : decode cX2_linkWeight 53 = .ok (.if_icmp .gt 14, 3) := by decide +kernel
theorem dX2_linkWeight_56 : decode cX2_linkWeight 56 = .ok (.iload_n 2, 1) := by decide +kernel
theorem dX2_linkWeight_57 : decode cX2_linkWeight 57 = .ok (.iload_n 1, 1) := by decide +kernel
theorem dX2_linkWeight_58 : decode cX2_linkWeight 58 = .ok (.isub, 1) := by decide +kernel
theorem dX2_linkWeight_59 : decode cX2_linkWeight 59 = .ok (.iconst 1, 1) := by decide +kernel
theorem dX2_linkWeight_60 : decode cX2_linkWeight 60 = .ok (.if_icmp .gt 7, 3) := by decide +kernel
theorem dX2_linkWeight_63 : decode cX2_linkWeight 63 = .ok (.iconst 1, 1) := by decide +kernel
theorem dX2_linkWeight_64 : decode cX2_linkWeight 64 = .ok (.goto 4, 3) := by decide +kernel
theorem dX2_linkWeight_67 : decode cX2_linkWeight 67 = .ok (.iconst 0, 1) := by decide +kernel
theorem dX2_linkWeight_68 : decode cX2_linkWeight 68 = .ok (.ireturn, 1) := by decide +kernel
theorem dX2_linkWeight_69 : decode cX2_linkWeight 69 = .ok (.iload_n 1, 1) := by decide +kernel
theorem dX2_linkWeight_70 : decode cX2_linkWeight 70 = .ok (.iconst 1, 1) := by decide +kernel
theorem dX2_linkWeight_71 : decode cX2_linkWeight 71 = .ok (.if_icmp .ne 12, 3) := by decide +kernel
theorem dX2_linkWeight_74 : decode cX2_linkWeight 74 = .ok (.iload_n 2, 1) := by decide +kernel
theorem dX2_linkWeight_75 : decode cX2_linkWeight 75 = .ok (.iconst 1, 1) := by decide +kernel
theorem dX2_linkWeight_76 : decode cX2_linkWeight 76 = .ok (.if_icmp .ne 7, 3) := by decide +kernel
theorem dX2_linkWeight_79 : decode cX2_linkWeight 79 = .ok (.iconst 0, 1) := by decide +kernel
theorem dX2_linkWeight_80 : decode cX2_linkWeight 80 = .ok (.goto 4, 3) := by decide +kernel
theorem dX2_linkWeight_83 : decode cX2_linkWeight 83 = .ok (.iconst 1, 1) := by decide +kernel
theorem dX2_linkWeight_84 : decode cX2_linkWeight 84 = .ok (.ireturn, 1) := by decide +kernel
def rX2_linkWeight : Room := { frames := 0, cells := 0, slots := 0, locals := 0 }
theorem yk_X2_linkWeight : YK yX2_linkWeight cX2_linkWeight 3 (some .int) 2 := ⟨xim_X2_linkWeight, xse_X2_linkWeight, xin_X2, xco_X2_linkWeight, by decide +kernel⟩
set_option maxRecDepth 4000 in
theorem c_X2_linkWeight {l : Launch} {D : va_G} {t : Nat → ClassId} {a : Nat → Nat} {I : Nat → Int32} {F : Nat → Nat → Int32} {L : Nat → Int64} {K : Cfg} (hK : CFG K I F) (hW : WFK K) (x y : Nat) (hx : x ≤ 5) (hy : y ≤ 5) : CT l D t yX2_linkWeight cX2_linkWeight 3 (some .int) rX2_linkWeight 0 0 [.ref (a 2), .int (nI x), .int (nI y)] (WX a t I F L) (RP (.int (nI (lwN K x y))) (WX a t I F L)) := by
  refine CT.of (by decide +kernel) (by simp [lg_sl, Value.category]) (fun X C hR => ?_)
  refine xlocals (lv' := [(0, .ref (a 2)), (1, .int (nI x)), (2, .int (nI y))]) rfl ?_
  have fn24 := hW.n24; have fm60 := hW.m60; have fk2 := hW.k2; have fu1 := hW.u1; have fu9 := hW.u9; have fv1 := hW.v1; have fv9 := hW.v9
  refine xaload_n C 0 rfl dX2_linkWeight_0 ?_
  refine gX2_18K C hK dX2_linkWeight_1 ?_
  rcases (show kk K = 0 ∨ kk K = 1 ∨ kk K = 2 by omega) with h4 | h4 | h4
  ·
    refine xtopi (y := nI 0) (by rw [h4]) ?_
    refine xlookup C 32 dX2_linkWeight_4 (by decide +kernel) (off := 28) (by decide +kernel) (by decide) ?_
    refine xiload_n C 1 rfl dX2_linkWeight_32 ?_
    refine xiload_n C 2 rfl dX2_linkWeight_33 ?_
    refine xicmp_neN C 44 dX2_linkWeight_34 (by decide) (by omega) (by omega) (fun h34 => ?_) (fun h34 => ?_)
    ·
      refine xaload_n C 0 rfl dX2_linkWeight_44 ?_
      refine gX2_25K C hK dX2_linkWeight_45 ?_
      exact xret C hR (rfl) dX2_linkWeight_48 (RPn (by simp [lwN, h4, h34]))
    ·
      refine xaload_n C 0 rfl dX2_linkWeight_37 ?_
      refine gX2_22K C hK dX2_linkWeight_38 ?_
      refine xgoto C 48 dX2_linkWeight_41 (by decide) ?_
      exact xret C hR (rfl) dX2_linkWeight_48 (RPn (by simp [lwN, h4, h34]))
  ·
    refine xtopi (y := nI 1) (by rw [h4]) ?_
    refine xlookup C 49 dX2_linkWeight_4 (by decide +kernel) (off := 45) (by decide +kernel) (by decide) ?_
    refine xiload_n C 1 rfl dX2_linkWeight_49 ?_
    refine xiload_n C 2 rfl dX2_linkWeight_50 ?_
    refine xisub C dX2_linkWeight_51 ?_
    refine xiconst (v := nI 1) C dX2_linkWeight_52 (by decide) ?_
    refine xicmp_gt C 67 dX2_linkWeight_53 (by decide) (fun h53 => ?_) (fun h53 => ?_)
    ·
      have h53 := gt1 hx hy h53
      refine xiconst (v := nI 0) C dX2_linkWeight_67 (by decide) ?_
      exact xret C hR (rfl) dX2_linkWeight_68 (RPn (by unfold lwN; rw [if_neg (by omega), if_pos (by omega), if_neg (by omega)]))
    ·
      have h53 := ngt1 hx hy h53
      refine xiload_n C 2 rfl dX2_linkWeight_56 ?_
      refine xiload_n C 1 rfl dX2_linkWeight_57 ?_
      refine xisub C dX2_linkWeight_58 ?_
      refine xiconst (v := nI 1) C dX2_linkWeight_59 (by decide) ?_
      refine xicmp_gt C 67 dX2_linkWeight_60 (by decide) (fun h60 => ?_) (fun h60 => ?_)
      ·
        have h60 := gt1 hy hx h60
        refine xiconst (v := nI 0) C dX2_linkWeight_67 (by decide) ?_
        exact xret C hR (rfl) dX2_linkWeight_68 (RPn (by unfold lwN; rw [if_neg (by omega), if_pos (by omega), if_neg (by omega)]))
      ·
        have h60 := ngt1 hy hx h60
        refine xiconst (v := nI 1) C dX2_linkWeight_63 (by decide) ?_
        refine xgoto C 68 dX2_linkWeight_64 (by decide) ?_
        exact xret C hR (rfl) dX2_linkWeight_68 (RPn (by unfold lwN; rw [if_neg (by omega), if_pos (by omega), if_pos (by omega)]))
  ·
    refine xtopi (y := nI 2) (by rw [h4]) ?_
    refine xlookup C 69 dX2_linkWeight_4 (by decide +kernel) (off := 65) (by decide +kernel) (by decide) ?_
    refine xiload_n C 1 rfl dX2_linkWeight_69 ?_
    refine xiconst (v := nI 1) C dX2_linkWeight_70 (by decide) ?_
    refine xicmp_neN C 83 dX2_linkWeight_71 (by decide) (by omega) (by omega) (fun h71 => ?_) (fun h71 => ?_)
    ·
      refine xiconst (v := nI 1) C dX2_linkWeight_83 (by decide) ?_
      exact xret C hR (rfl) dX2_linkWeight_84 (RPn (by simp [lwN, h4, h71]))
    ·
      refine xiload_n C 2 rfl dX2_linkWeight_74 ?_
      refine xiconst (v := nI 1) C dX2_linkWeight_75 (by decide) ?_
      refine xicmp_neN C 83 dX2_linkWeight_76 (by decide) (by omega) (by omega) (fun h76 => ?_) (fun h76 => ?_)
      ·
        refine xiconst (v := nI 1) C dX2_linkWeight_83 (by decide) ?_
        exact xret C hR (rfl) dX2_linkWeight_84 (RPn (by simp [lwN, h4, h71, h76]))
      ·
        refine xiconst (v := nI 0) C dX2_linkWeight_79 (by decide) ?_
        refine xgoto C 84 dX2_linkWeight_80 (by decide) ?_
        exact xret C hR (rfl) dX2_linkWeight_84 (RPn (by simp [lwN, h4, h71, h76]))
