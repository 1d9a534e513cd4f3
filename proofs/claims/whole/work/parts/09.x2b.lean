/-! Rules: isAllowed, weightOf, weightAround, isSound and its two, drawTogether (written by my program parts_x2b.py). -/
def crossP (K : Cfg) : Prop := ∀ k, k < km K → ksi K (kla K k) ≠ ksi K (klb K k)
def soundP (K : Cfg) (lo hi : Nat → Nat) : Prop := if kk K = 0 then kv K ≤ ku K else if kk K = 1 then ∀ p, p < kn K → lo p ≤ hi p else crossP K
/-- a link drawn together, from above and from below; a round over the links; rounds -/
def rlH (K : Cfg) (f : Nat → Nat) (k : Nat) : Nat → Nat := va_up (va_up f (kla K k) (min (f (kla K k)) (f (klb K k) + 1))) (klb K k) (min (va_up f (kla K k) (min (f (kla K k)) (f (klb K k) + 1)) (klb K k)) (va_up f (kla K k) (min (f (kla K k)) (f (klb K k) + 1)) (kla K k) + 1))
def rlL (K : Cfg) (f : Nat → Nat) (k : Nat) : Nat → Nat := va_up (va_up f (kla K k) (max (f (kla K k)) (f (klb K k) - 1))) (klb K k) (max (va_up f (kla K k) (max (f (kla K k)) (f (klb K k) - 1)) (klb K k)) (va_up f (kla K k) (max (f (kla K k)) (f (klb K k) - 1)) (kla K k) - 1))
def rdH (K : Cfg) (f : Nat → Nat) : Nat → (Nat → Nat)
  | 0 => f
  | k + 1 => rlH K (rdH K f k) k
def rdL (K : Cfg) (f : Nat → Nat) : Nat → (Nat → Nat)
  | 0 => f
  | k + 1 => rlL K (rdL K f k) k
def rrH (K : Cfg) (f : Nat → Nat) : Nat → (Nat → Nat)
  | 0 => f
  | i + 1 => rdH K (rrH K f i) (km K)
def rrL (K : Cfg) (f : Nat → Nat) : Nat → (Nat → Nat)
  | 0 => f
  | i + 1 => rdL K (rrL K f i) (km K)
theorem nmin {x y : Nat} (hx : x < 100) (hy : y < 100) : (if nI y + nI 1 < nI x then nI y + nI 1 else nI x) = nI (min x (y + 1)) := by
  rw [nI_add]
  by_cases h : y + 1 < x
  · rw [if_pos ((nI_ltI (by omega) (by omega)).mpr h), Nat.min_eq_right (by omega)]
  · rw [if_neg (fun q => h ((nI_ltI (by omega) (by omega)).mp q)), Nat.min_eq_left (by omega)]
theorem nmin' {x y : Nat} (hx : x < 100) (hy : y < 100) : (if nI (y + 1) < nI x then nI (y + 1) else nI x) = nI (min x (y + 1)) := by
  rw [← nmin hx hy, nI_add]
theorem nmax {x y : Nat} (hx : x < 100) (hy : y < 100) : (if nI x < nI y - nI 1 then nI y - nI 1 else nI x) = nI (max x (y - 1)) := by
  by_cases h0 : y = 0
  · subst h0
    rw [if_neg, Nat.max_eq_left (by omega)]
    intro q
    have h1 := Int32.lt_iff_toInt_lt.mp q
    rw [pk_sub_toInt (by omega) (by omega), nI_toInt (by omega)] at h1
    omega
  · rw [pk_sub (by omega)]
    by_cases h : x < y - 1
    · rw [if_pos ((nI_ltI (by omega) (by omega)).mpr h), Nat.max_eq_right (by omega)]
    · rw [if_neg (fun q => h ((nI_ltI (by omega) (by omega)).mp q)), Nat.max_eq_left (by omega)]
theorem dX2_isAllowed_0 : decode cX2_isAllowed 0 = .ok (.iconst 0, 1) := by decide +kernel
theorem dX2_isAllowed_1 : decode cX2_isAllowed 1 = .ok (.istore_n 2, 1) := by decide +kernel
theorem dX2_isAllowed_2 : decode cX2_isAllowed 2 = .ok (.iload_n 2, 1) := by decide +kernel
theorem dX2_isAllowed_3 : decode cX2_isAllowed 3 = .ok (.aload_n 0, 1) := by decide +kernel
theorem dX2_isAllowed_4 : decode cX2_isAllowed 4 = .ok (.getfield 32, 3) := by decide +kernel
theorem dX2_isAllowed_7 : decode cX2_isAllowed 7 = .ok (.getfield 55, 3) := by decide +kernel
theorem dX2_isAllowed_10 : decode cX2_isAllowed 10 = .ok (.if_icmp .ge 22, 3) := by decide +kernel
theorem dX2_isAllowed_13 : decode cX2_isAllowed 13 = .ok (.aload_n 0, 1) := by decide +kernel
theorem dX2_isAllowed_14 : decode cX2_isAllowed 14 = .ok (.iload_n 2, 1) := by decide +kernel
theorem dX2_isAllowed_15 : decode cX2_isAllowed 15 = .ok (.aload_n 1, 1) := by decide +kernel
theorem dX2_isAllowed_16 : decode cX2_isAllowed 16 = .ok (.iload_n 2, 1) := by decide +kernel
theorem dX2_isAllowed_17 : decode cX2_isAllowed 17 = .ok (.iaload, 1) := by decide +kernel
theorem dX2_isAllowed_18 : decode cX2_isAllowed 18 = .ok (.invokevirtual 58, 3) := by decide +kernel
theorem dX2_isAllowed_21 : decode cX2_isAllowed 21 = .ok (.ifCond .ne 5, 3) := by decide +kernel
theorem dX2_isAllowed_24 : decode cX2_isAllowed 24 = .ok (.iconst 0, 1) := by decide +kernel
theorem dX2_isAllowed_25 : decode cX2_isAllowed 25 = .ok (.ireturn, 1) := by decide +kernel
theorem dX2_isAllowed_26 : decode cX2_isAllowed 26 = .ok (.iinc 2 1, 3) := by decide +kernel
theorem dX2_isAllowed_29 : decode cX2_isAllowed 29 = .ok (.goto (-27), 3) := by decide +kernel
theorem dX2_isAllowed_32 : decode cX2_isAllowed 32 = .ok (.iconst 0, 1) := by decide +kernel
theorem dX2_isAllowed_33 : decode cX2_isAllowed 33 = .ok (.istore_n 2, 1) := by decide +kernel
theorem dX2_isAllowed_34 : decode cX2_isAllowed 34 = .ok (.iload_n 2, 1) := by decide +kernel
theorem dX2_isAllowed_35 : decode cX2_isAllowed 35 = .ok (.aload_n 0, 1) := by decide +kernel
theorem dX2_isAllowed_36 : decode cX2_isAllowed 36 = .ok (.getfield 32, 3) := by decide +kernel
theorem dX2_isAllowed_39 : decode cX2_isAllowed 39 = .ok (.getfield 62, 3) := by decide +kernel
theorem dX2_isAllowed_42 : decode cX2_isAllowed 42 = .ok (.if_icmp .ge 40, 3) := by decide +kernel
theorem dX2_isAllowed_45 : decode cX2_isAllowed 45 = .ok (.aload_n 0, 1) := by decide +kernel
theorem dX2_isAllowed_46 : decode cX2_isAllowed 46 = .ok (.aload_n 1, 1) := by decide +kernel
theorem dX2_isAllowed_47 : decode cX2_isAllowed 47 = .ok (.aload_n 0, 1) := by decide +kernel
theorem dX2_isAllowed_48 : decode cX2_isAllowed 48 = .ok (.getfield 32, 3) := by decide +kernel
theorem dX2_isAllowed_51 : decode cX2_isAllowed 51 = .ok (.getfield 65, 3) := by decide +kernel
theorem dX2_isAllowed_54 : decode cX2_isAllowed 54 = .ok (.iload_n 2, 1) := by decide +kernel
theorem dX2_isAllowed_55 : decode cX2_isAllowed 55 = .ok (.iaload, 1) := by decide +kernel
theorem dX2_isAllowed_56 : decode cX2_isAllowed 56 = .ok (.iaload, 1) := by decide +kernel
theorem dX2_isAllowed_57 : decode cX2_isAllowed 57 = .ok (.aload_n 1, 1) := by decide +kernel
theorem dX2_isAllowed_58 : decode cX2_isAllowed 58 = .ok (.aload_n 0, 1) := by decide +kernel
theorem dX2_isAllowed_59 : decode cX2_isAllowed 59 = .ok (.getfield 32, 3) := by decide +kernel
theorem dX2_isAllowed_62 : decode cX2_isAllowed 62 = .ok (.getfield 68, 3) := by decide +kernel
theorem dX2_isAllowed_65 : decode cX2_isAllowed 65 = .ok (.iload_n 2, 1) := by decide +kernel
theorem dX2_isAllowed_66 : decode cX2_isAllowed 66 = .ok (.iaload, 1) := by decide +kernel
theorem dX2_isAllowed_67 : decode cX2_isAllowed 67 = .ok (.iaload, 1) := by decide +kernel
theorem dX2_isAllowed_68 : decode cX2_isAllowed 68 = .ok (.invokevirtual 71, 3) := by decide +kernel
theorem dX2_isAllowed_71 : decode cX2_isAllowed 71 = .ok (.ifCond .ne 5, 3) := by decide +kernel
theorem dX2_isAllowed_74 : decode cX2_isAllowed 74 = .ok (.iconst 0, 1) := by decide +kernel
theorem dX2_isAllowed_75 : decode cX2_isAllowed 75 = .ok (.ireturn, 1) := by decide +kernel
theorem dX2_isAllowed_76 : decode cX2_isAllowed 76 = .ok (.iinc 2 1, 3) := by decide +kernel
theorem dX2_isAllowed_79 : decode cX2_isAllowed 79 = .ok (.goto (-45), 3) := by decide +kernel
theorem dX2_isAllowed_82 : decode cX2_isAllowed 82 = .ok (.iconst 1, 1) := by decide +kernel
theorem dX2_isAllowed_83 : decode cX2_isAllowed 83 = .ok (.ireturn, 1) := by decide +kernel
def rX2_isAllowed : Room := { frames := 2, cells := 0, slots := 0, locals := 43 }
theorem yk_X2_isAllowed : YK yX2_isAllowed cX2_isAllowed 3 (some .boolean) 1 := ⟨xim_X2_isAllowed, xse_X2_isAllowed, xin_X2, xco_X2_isAllowed, by decide +kernel⟩
set_option maxRecDepth 4000 in
theorem c_X2_isAllowed {l : Launch} {D : va_G} {t : Nat → ClassId} {a : Nat → Nat} {I : Nat → Int32} {F : Nat → Nat → Int32} {L : Nat → Int64} {K : Cfg} (hK : CFG K I F) (hW : WFK K) (j : Nat) (h6 : 6 ≤ j) (hj : j < 13) {f : Nat → Nat} (hS : RA (kn K) (F j) f) : CT l D t yX2_isAllowed cX2_isAllowed 3 (some .boolean) rX2_isAllowed 0 0 [.ref (a 2), .ref (a (8 + j))] (WX a t I F L) (RP (.int (nI (bn (alP K f)))) (WX a t I F L)) := by
  refine CT.of (by decide +kernel) (by simp [lg_sl, Value.category]) (fun X C hR => ?_)
  refine xlocals (lv' := [(0, .ref (a 2)), (1, .ref (a (8 + j)))]) rfl ?_
  have fn24 := hW.n24; have fm60 := hW.m60; have fk2 := hW.k2; have fu1 := hW.u1; have fu9 := hW.u9; have fv1 := hW.v1; have fv9 := hW.v9
  refine xiconst (v := nI 0) C dX2_isAllowed_0 (by decide) ?_
  refine xistore_n (lv' := [(2, .int (nI 0)), (0, .ref (a 2)), (1, .ref (a (8 + j)))]) C dX2_isAllowed_1 (by decide) rfl ?_
  have LP2 : ∀ (fu2 : Nat) (i : Nat) (hi : i ≤ kn K) (ha : ∀ p, p < i → pwN K p (f p) ≠ 0), kn K - i < fu2 → XW X 0 0 (WX a t I F L) [(0, .ref (a 2)), (1, .ref (a (8 + j))), (2, .int (nI i))] 2 [] := by
    intro fu2
    induction fu2 with
    | zero => intro i hi ha hm2; exact absurd hm2 (Nat.not_lt_zero _)
    | succ fu2 ih2 =>
      intro i hi ha hm2
      refine xiload_n C 2 rfl dX2_isAllowed_2 ?_
      refine xaload_n C 0 rfl dX2_isAllowed_3 ?_
      refine gX2_32 C dX2_isAllowed_4 ?_
      refine gX2_55K C hK dX2_isAllowed_7 ?_
      refine xicmp_geN C 32 dX2_isAllowed_10 (by decide) (by omega) (by omega) (fun h10 => ?_) (fun h10 => ?_)
      ·
        refine xiconst (v := nI 0) C dX2_isAllowed_32 (by decide) ?_
        refine xistore_n (lv' := [(2, .int (nI 0)), (0, .ref (a 2)), (1, .ref (a (8 + j)))]) C dX2_isAllowed_33 (by decide) rfl ?_
        have LP34 : ∀ (fu34 : Nat) (k : Nat) (hk : k ≤ km K) (hb : ∀ q, q < k → lwN K (f (kla K q)) (f (klb K q)) ≠ 0), km K - k < fu34 → XW X 0 0 (WX a t I F L) [(0, .ref (a 2)), (1, .ref (a (8 + j))), (2, .int (nI k))] 34 [] := by
          intro fu34
          induction fu34 with
          | zero => intro k hk hb hm34; exact absurd hm34 (Nat.not_lt_zero _)
          | succ fu34 ih34 =>
            intro k hk hb hm34
            refine xiload_n C 2 rfl dX2_isAllowed_34 ?_
            refine xaload_n C 0 rfl dX2_isAllowed_35 ?_
            refine gX2_32 C dX2_isAllowed_36 ?_
            refine gX2_62K C hK dX2_isAllowed_39 ?_
            refine xicmp_geN C 82 dX2_isAllowed_42 (by decide) (by omega) (by omega) (fun h42 => ?_) (fun h42 => ?_)
            ·
              refine xiconst (v := nI 1) C dX2_isAllowed_82 (by decide) ?_
              exact xret C hR (by rfl) dX2_isAllowed_83 (RPn ((bn_t ⟨fun p h => ha p (by omega), fun q h => hb q (by omega)⟩).symm))
            ·
              refine xaload_n C 0 rfl dX2_isAllowed_45 ?_
              refine xaload_n C 1 rfl dX2_isAllowed_46 ?_
              refine xaload_n C 0 rfl dX2_isAllowed_47 ?_
              refine gX2_32 C dX2_isAllowed_48 ?_
              refine gX2_65 C dX2_isAllowed_51 ?_
              refine xiload_n C 2 rfl dX2_isAllowed_54 ?_
              refine xa_la C hK hW k (by omega) dX2_isAllowed_55 ?_
              have fb55 := (hW.la (by omega))
              refine xa_st C hW j h6 hj hS (kla K k) (by omega) dX2_isAllowed_56 ?_
              have fb56 := (hS (kla K k) (by omega)).2
              refine xaload_n C 1 rfl dX2_isAllowed_57 ?_
              refine xaload_n C 0 rfl dX2_isAllowed_58 ?_
              refine gX2_32 C dX2_isAllowed_59 ?_
              refine gX2_68 C dX2_isAllowed_62 ?_
              refine xiload_n C 2 rfl dX2_isAllowed_65 ?_
              refine xa_lb C hK hW k (by omega) dX2_isAllowed_66 ?_
              have fb66 := (hW.lb (by omega))
              refine xa_st C hW j h6 hj hS (klb K k) (by omega) dX2_isAllowed_67 ?_
              have fb67 := (hS (klb K k) (by omega)).2
              refine xcVR C (c_X2_linkWeight hK hW (f (kla K k)) (f (klb K k)) (by omega) (by omega)) yk_X2_linkWeight 2 rfl rfl xml_X2_71 ⟨⟨Nat.le_of_ble_eq_true rfl, Nat.le_of_ble_eq_true rfl⟩, ⟨rfl, rfl⟩, ⟨Nat.zero_le _, Nat.zero_le _⟩⟩ rfl (Nat.le_of_ble_eq_true rfl) dX2_isAllowed_68 ?_
              have fl68 := lwN_le hW (f (kla K k)) (f (klb K k))
              refine xif_neN C 76 dX2_isAllowed_71 (by decide) (by omega) (fun h71 => ?_) (fun h71 => ?_)
              ·
                refine xiincN (lv' := [(2, .int (nI (k + 1))), (0, .ref (a 2)), (1, .ref (a (8 + j)))]) C 2 rfl dX2_isAllowed_76 (by decide) rfl ?_
                refine xgoto C 34 dX2_isAllowed_79 (by decide) ?_
                refine xsub [1, 2, 0] rfl ?_
                exact ih34 (k + 1) (by omega) (lt_s hb h71) (by omega)
              ·
                refine xiconst (v := nI 0) C dX2_isAllowed_74 (by decide) ?_
                exact xret C hR (by rfl) dX2_isAllowed_75 (RPn ((bn_f (fun q => q.2 k (by omega) h71)).symm))
        refine xsub [1, 2, 0] rfl ?_
        exact LP34 _ 0 (Nat.zero_le _) (fun p h => absurd h (Nat.not_lt_zero _)) (Nat.lt_succ_self _)
      ·
        refine xaload_n C 0 rfl dX2_isAllowed_13 ?_
        refine xiload_n C 2 rfl dX2_isAllowed_14 ?_
        refine xaload_n C 1 rfl dX2_isAllowed_15 ?_
        refine xiload_n C 2 rfl dX2_isAllowed_16 ?_
        refine xa_st C hW j h6 hj hS i (by omega) dX2_isAllowed_17 ?_
        have fb17 := (hS i (by omega)).2
        refine xcVR C (c_X2_placeWeight hK hW i (by omega) (f i) (by omega)) yk_X2_placeWeight 2 rfl rfl xml_X2_58 ⟨⟨Nat.le_of_ble_eq_true rfl, Nat.le_of_ble_eq_true rfl⟩, ⟨rfl, rfl⟩, ⟨Nat.zero_le _, Nat.zero_le _⟩⟩ rfl (Nat.le_of_ble_eq_true rfl) dX2_isAllowed_18 ?_
        have fp18 := pwN_le hW i (f i)
        refine xif_neN C 26 dX2_isAllowed_21 (by decide) (by omega) (fun h21 => ?_) (fun h21 => ?_)
        ·
          refine xiincN (lv' := [(2, .int (nI (i + 1))), (0, .ref (a 2)), (1, .ref (a (8 + j)))]) C 2 rfl dX2_isAllowed_26 (by decide) rfl ?_
          refine xgoto C 2 dX2_isAllowed_29 (by decide) ?_
          refine xsub [1, 2, 0] rfl ?_
          exact ih2 (i + 1) (by omega) (lt_s ha h21) (by omega)
        ·
          refine xiconst (v := nI 0) C dX2_isAllowed_24 (by decide) ?_
          exact xret C hR (by rfl) dX2_isAllowed_25 (RPn ((bn_f (fun q => q.1 i (by omega) h21)).symm))
  refine xsub [1, 2, 0] rfl ?_
  exact LP2 _ 0 (Nat.zero_le _) (fun p h => absurd h (Nat.not_lt_zero _)) (Nat.lt_succ_self _)
theorem dX2_weightOf_0 : decode cX2_weightOf 0 = .ok (.lconst 1, 1) := by decide +kernel
theorem dX2_weightOf_1 : decode cX2_weightOf 1 = .ok (.lstore_n 2, 1) := by decide +kernel
theorem dX2_weightOf_2 : decode cX2_weightOf 2 = .ok (.iconst 0, 1) := by decide +kernel
theorem dX2_weightOf_3 : decode cX2_weightOf 3 = .ok (.istore 4, 2) := by decide +kernel
theorem dX2_weightOf_5 : decode cX2_weightOf 5 = .ok (.iload 4, 2) := by decide +kernel
theorem dX2_weightOf_7 : decode cX2_weightOf 7 = .ok (.aload_n 0, 1) := by decide +kernel
theorem dX2_weightOf_8 : decode cX2_weightOf 8 = .ok (.getfield 32, 3) := by decide +kernel
theorem dX2_weightOf_11 : decode cX2_weightOf 11 = .ok (.getfield 55, 3) := by decide +kernel
theorem dX2_weightOf_14 : decode cX2_weightOf 14 = .ok (.if_icmp .ge 23, 3) := by decide +kernel
theorem dX2_weightOf_17 : decode cX2_weightOf 17 = .ok (.lload_n 2, 1) := by decide +kernel
theorem dX2_weightOf_18 : decode cX2_weightOf 18 = .ok (.aload_n 0, 1) := by decide +kernel
theorem dX2_weightOf_19 : decode cX2_weightOf 19 = .ok (.iload 4, 2) := by decide +kernel
theorem dX2_weightOf_21 : decode cX2_weightOf 21 = .ok (.aload_n 1, 1) := by decide +kernel
theorem dX2_weightOf_22 : decode cX2_weightOf 22 = .ok (.iload 4, 2) := by decide +kernel
theorem dX2_weightOf_24 : decode cX2_weightOf 24 = .ok (.iaload, 1) := by decide +kernel
theorem dX2_weightOf_25 : decode cX2_weightOf 25 = .ok (.invokevirtual 58, 3) := by decide +kernel
theorem dX2_weightOf_28 : decode cX2_weightOf 28 = .ok (.i2l, 1) := by decide +kernel
theorem dX2_weightOf_29 : decode cX2_weightOf 29 = .ok (.lmul, 1) := by decide +kernel
theorem dX2_weightOf_30 : decode cX2_weightOf 30 = .ok (.lstore_n 2, 1) := by decide +kernel
theorem dX2_weightOf_31 : decode cX2_weightOf 31 = .ok (.iinc 4 1, 3) := by decide +kernel
theorem dX2_weightOf_34 : decode cX2_weightOf 34 = .ok (.goto (-29), 3) := by decide +kernel
theorem dX2_weightOf_37 : decode cX2_weightOf 37 = .ok (.iconst 0, 1) := by decide +kernel
theorem dX2_weightOf_38 : decode cX2_weightOf 38 = .ok (.istore 4, 2) := by decide +kernel
theorem dX2_weightOf_40 : decode cX2_weightOf 40 = .ok (.iload 4, 2) := by decide +kernel
theorem dX2_weightOf_42 : decode cX2_weightOf 42 = .ok (.aload_n 0, 1) := by decide +kernel
theorem dX2_weightOf_43 : decode cX2_weightOf 43 = .ok (.getfield 32, 3) := by decide +kernel
theorem dX2_weightOf_46 : decode cX2_weightOf 46 = .ok (.getfield 62, 3) := by decide +kernel
theorem dX2_weightOf_49 : decode cX2_weightOf 49 = .ok (.if_icmp .ge 41, 3) := by decide +kernel
theorem dX2_weightOf_52 : decode cX2_weightOf 52 = .ok (.lload_n 2, 1) := by decide +kernel
theorem dX2_weightOf_53 : decode cX2_weightOf 53 = .ok (.aload_n 0, 1) := by decide +kernel
theorem dX2_weightOf_54 : decode cX2_weightOf 54 = .ok (.aload_n 1, 1) := by decide +kernel
theorem dX2_weightOf_55 : decode cX2_weightOf 55 = .ok (.aload_n 0, 1) := by decide +kernel
theorem dX2_weightOf_56 : decode cX2_weightOf 56 = .ok (.getfield 32, 3) := by decide +kernel
theorem dX2_weightOf_59 : decode cX2_weightOf 59 = .ok (.getfield 65, 3) := by decide +kernel
theorem dX2_weightOf_62 : decode cX2_weightOf 62 = .ok (.iload 4, 2) := by decide +kernel
theorem dX2_weightOf_64 : decode cX2_weightOf 64 = .ok (.iaload, 1) := by decide +kernel
theorem dX2_weightOf_65 : decode cX2_weightOf 65 = .ok (.iaload, 1) := by decide +kernel
theorem dX2_weightOf_66 : decode cX2_weightOf 66 = .ok (.aload_n 1, 1) := by decide +kernel
theorem dX2_weightOf_67 : decode cX2_weightOf 67 = .ok (.aload_n 0, 1) := by decide +kernel
theorem dX2_weightOf_68 : decode cX2_weightOf 68 = .ok (.getfield 32, 3) := by decide +kernel
theorem dX2_weightOf_71 : decode cX2_weightOf 71 = .ok (.getfield 68, 3) := by decide +kernel
theorem dX2_weightOf_74 : decode cX2_weightOf 74 = .ok (.iload 4, 2) := by decide +kernel
theorem dX2_weightOf_76 : decode cX2_weightOf 76 = .ok (.iaload, 1) := by decide +kernel
theorem dX2_weightOf_77 : decode cX2_weightOf 77 = .ok (.iaload, 1) := by decide +kernel
theorem dX2_weightOf_78 : decode cX2_weightOf 78 = .ok (.invokevirtual 71, 3) := by decide +kernel
theorem dX2_weightOf_81 : decode cX2_weightOf 81 = .ok (.i2l, 1) := by decide +kernel
theorem dX2_weightOf_82 : decode cX2_weightOf 82 = .ok (.lmul, 1) := by decide +kernel
theorem dX2_weightOf_83 : decode cX2_weightOf 83 = .ok (.lstore_n 2, 1) := by decide +kernel
theorem dX2_weightOf_84 : decode cX2_weightOf 84 = .ok (.iinc 4 1, 3) := by decide +kernel
theorem dX2_weightOf_87 : decode cX2_weightOf 87 = .ok (.goto (-47), 3) := by decide +kernel
theorem dX2_weightOf_90 : decode cX2_weightOf 90 = .ok (.lload_n 2, 1) := by decide +kernel
theorem dX2_weightOf_91 : decode cX2_weightOf 91 = .ok (.lreturn, 1) := by decide +kernel
def rX2_weightOf : Room := { frames := 2, cells := 0, slots := 0, locals := 43 }
theorem yk_X2_weightOf : YK yX2_weightOf cX2_weightOf 5 (some .long) 1 := ⟨xim_X2_weightOf, xse_X2_weightOf, xin_X2, xco_X2_weightOf, by decide +kernel⟩
set_option maxRecDepth 4000 in
theorem c_X2_weightOf {l : Launch} {D : va_G} {t : Nat → ClassId} {a : Nat → Nat} {I : Nat → Int32} {F : Nat → Nat → Int32} {L : Nat → Int64} {K : Cfg} (hK : CFG K I F) (hW : WFK K) (j : Nat) (h6 : 6 ≤ j) (hj : j < 13) {f : Nat → Nat} (hS : RA (kn K) (F j) f) : CT l D t yX2_weightOf cX2_weightOf 5 (some .long) rX2_weightOf 0 0 [.ref (a 2), .ref (a (8 + j))] (WX a t I F L) (RP (.long (lN (woN K f))) (WX a t I F L)) := by
  refine CT.of (by decide +kernel) (by simp [lg_sl, Value.category]) (fun X C hR => ?_)
  refine xlocals (lv' := [(0, .ref (a 2)), (1, .ref (a (8 + j)))]) rfl ?_
  have fn24 := hW.n24; have fm60 := hW.m60; have fk2 := hW.k2; have fu1 := hW.u1; have fu9 := hW.u9; have fv1 := hW.v1; have fv9 := hW.v9
  refine xlconst (v := lN 1) C dX2_weightOf_0 (by decide) ?_
  refine xlstore_n (lv' := [(2, .long (lN 1)), (0, .ref (a 2)), (1, .ref (a (8 + j)))]) C dX2_weightOf_1 (by decide) rfl ?_
  refine xiconst (v := nI 0) C dX2_weightOf_2 (by decide) ?_
  refine xistore (lv' := [(4, .int (nI 0)), (2, .long (lN 1)), (0, .ref (a 2)), (1, .ref (a (8 + j)))]) C dX2_weightOf_3 (by decide) rfl ?_
  have LP5 : ∀ (fu5 : Nat) (i : Nat) (hi : i ≤ kn K), kn K - i < fu5 → XW X 0 0 (WX a t I F L) [(0, .ref (a 2)), (1, .ref (a (8 + j))), (2, .long (lN (pr (fun p => pwN K p (f p)) i))), (4, .int (nI i))] 5 [] := by
    intro fu5
    induction fu5 with
    | zero => intro i hi hm5; exact absurd hm5 (Nat.not_lt_zero _)
    | succ fu5 ih5 =>
      intro i hi hm5
      refine xiload C 3 rfl dX2_weightOf_5 ?_
      refine xaload_n C 0 rfl dX2_weightOf_7 ?_
      refine gX2_32 C dX2_weightOf_8 ?_
      refine gX2_55K C hK dX2_weightOf_11 ?_
      refine xicmp_geN C 37 dX2_weightOf_14 (by decide) (by omega) (by omega) (fun h14 => ?_) (fun h14 => ?_)
      ·
        refine xiconst (v := nI 0) C dX2_weightOf_37 (by decide) ?_
        refine xistore (lv' := [(4, .int (nI 0)), (0, .ref (a 2)), (1, .ref (a (8 + j))), (2, .long (lN (pr (fun p => pwN K p (f p)) i)))]) C dX2_weightOf_38 (by decide) rfl ?_
        refine xlocals (lv' := [(4, .int (nI 0)), (0, .ref (a 2)), (1, .ref (a (8 + j))), (2, .long (lN (pr (fun p => pwN K p (f p)) (kn K) * pr (fun k => lwN K (f (kla K k)) (f (klb K k))) 0)))]) (by rw [show pr (fun k => lwN K (f (kla K k)) (f (klb K k))) 0 = 1 from rfl, Nat.mul_one, show i = kn K by omega]) ?_
        have LP40 : ∀ (fu40 : Nat) (k : Nat) (hk : k ≤ km K), km K - k < fu40 → XW X 0 0 (WX a t I F L) [(0, .ref (a 2)), (1, .ref (a (8 + j))), (2, .long (lN (pr (fun p => pwN K p (f p)) (kn K) * pr (fun k => lwN K (f (kla K k)) (f (klb K k))) k))), (4, .int (nI k))] 40 [] := by
          intro fu40
          induction fu40 with
          | zero => intro k hk hm40; exact absurd hm40 (Nat.not_lt_zero _)
          | succ fu40 ih40 =>
            intro k hk hm40
            refine xiload C 3 rfl dX2_weightOf_40 ?_
            refine xaload_n C 0 rfl dX2_weightOf_42 ?_
            refine gX2_32 C dX2_weightOf_43 ?_
            refine gX2_62K C hK dX2_weightOf_46 ?_
            refine xicmp_geN C 90 dX2_weightOf_49 (by decide) (by omega) (by omega) (fun h49 => ?_) (fun h49 => ?_)
            ·
              refine xlload_n C 2 rfl dX2_weightOf_90 ?_
              exact xlret C hR dX2_weightOf_91 (RPl (by (have e : k = km K := (by omega)); subst e; rfl))
            ·
              refine xlload_n C 2 rfl dX2_weightOf_52 ?_
              refine xaload_n C 0 rfl dX2_weightOf_53 ?_
              refine xaload_n C 1 rfl dX2_weightOf_54 ?_
              refine xaload_n C 0 rfl dX2_weightOf_55 ?_
              refine gX2_32 C dX2_weightOf_56 ?_
              refine gX2_65 C dX2_weightOf_59 ?_
              refine xiload C 3 rfl dX2_weightOf_62 ?_
              refine xa_la C hK hW k (by omega) dX2_weightOf_64 ?_
              have fb64 := (hW.la (by omega))
              refine xa_st C hW j h6 hj hS (kla K k) (by omega) dX2_weightOf_65 ?_
              have fb65 := (hS (kla K k) (by omega)).2
              refine xaload_n C 1 rfl dX2_weightOf_66 ?_
              refine xaload_n C 0 rfl dX2_weightOf_67 ?_
              refine gX2_32 C dX2_weightOf_68 ?_
              refine gX2_68 C dX2_weightOf_71 ?_
              refine xiload C 3 rfl dX2_weightOf_74 ?_
              refine xa_lb C hK hW k (by omega) dX2_weightOf_76 ?_
              have fb76 := (hW.lb (by omega))
              refine xa_st C hW j h6 hj hS (klb K k) (by omega) dX2_weightOf_77 ?_
              have fb77 := (hS (klb K k) (by omega)).2
              refine xcVR C (c_X2_linkWeight hK hW (f (kla K k)) (f (klb K k)) (by omega) (by omega)) yk_X2_linkWeight 2 rfl rfl xml_X2_71 ⟨⟨Nat.le_of_ble_eq_true rfl, Nat.le_of_ble_eq_true rfl⟩, ⟨rfl, rfl⟩, ⟨Nat.zero_le _, Nat.zero_le _⟩⟩ rfl (Nat.le_of_ble_eq_true rfl) dX2_weightOf_78 ?_
              have fl78 := lwN_le hW (f (kla K k)) (f (klb K k))
              refine xi2lN C (by omega) dX2_weightOf_81 ?_
              refine xlmulN C dX2_weightOf_82 ?_
              refine xtopl (y := lN (pr (fun p => pwN K p (f p)) (kn K) * pr (fun k => lwN K (f (kla K k)) (f (klb K k))) (k + 1))) (by rw [Nat.mul_assoc]; rfl) ?_
              refine xlstore_n (lv' := [(2, .long (lN (pr (fun p => pwN K p (f p)) (kn K) * pr (fun k => lwN K (f (kla K k)) (f (klb K k))) (k + 1)))), (0, .ref (a 2)), (1, .ref (a (8 + j))), (4, .int (nI k))]) C dX2_weightOf_83 (by decide) rfl ?_
              refine xiincN (lv' := [(4, .int (nI (k + 1))), (2, .long (lN (pr (fun p => pwN K p (f p)) (kn K) * pr (fun k => lwN K (f (kla K k)) (f (klb K k))) (k + 1)))), (0, .ref (a 2)), (1, .ref (a (8 + j)))]) C 3 rfl dX2_weightOf_84 (by decide) rfl ?_
              refine xgoto C 40 dX2_weightOf_87 (by decide) ?_
              refine xsub [2, 3, 1, 0] rfl ?_
              exact ih40 (k + 1) (by omega) (by omega)
        refine xsub [1, 2, 3, 0] rfl ?_
        exact LP40 _ 0 (Nat.zero_le _) (Nat.lt_succ_self _)
      ·
        refine xlload_n C 2 rfl dX2_weightOf_17 ?_
        refine xaload_n C 0 rfl dX2_weightOf_18 ?_
        refine xiload C 3 rfl dX2_weightOf_19 ?_
        refine xaload_n C 1 rfl dX2_weightOf_21 ?_
        refine xiload C 3 rfl dX2_weightOf_22 ?_
        refine xa_st C hW j h6 hj hS i (by omega) dX2_weightOf_24 ?_
        have fb24 := (hS i (by omega)).2
        refine xcVR C (c_X2_placeWeight hK hW i (by omega) (f i) (by omega)) yk_X2_placeWeight 2 rfl rfl xml_X2_58 ⟨⟨Nat.le_of_ble_eq_true rfl, Nat.le_of_ble_eq_true rfl⟩, ⟨rfl, rfl⟩, ⟨Nat.zero_le _, Nat.zero_le _⟩⟩ rfl (Nat.le_of_ble_eq_true rfl) dX2_weightOf_25 ?_
        have fp25 := pwN_le hW i (f i)
        refine xi2lN C (by omega) dX2_weightOf_28 ?_
        refine xlmulN C dX2_weightOf_29 ?_
        refine xtopl (y := lN (pr (fun p => pwN K p (f p)) (i + 1))) (rfl) ?_
        refine xlstore_n (lv' := [(2, .long (lN (pr (fun p => pwN K p (f p)) (i + 1)))), (0, .ref (a 2)), (1, .ref (a (8 + j))), (4, .int (nI i))]) C dX2_weightOf_30 (by decide) rfl ?_
        refine xiincN (lv' := [(4, .int (nI (i + 1))), (2, .long (lN (pr (fun p => pwN K p (f p)) (i + 1)))), (0, .ref (a 2)), (1, .ref (a (8 + j)))]) C 3 rfl dX2_weightOf_31 (by decide) rfl ?_
        refine xgoto C 5 dX2_weightOf_34 (by decide) ?_
        refine xsub [2, 3, 1, 0] rfl ?_
        exact ih5 (i + 1) (by omega) (by omega)
  refine xsub [2, 3, 1, 0] rfl ?_
  exact LP5 _ 0 (Nat.zero_le _) (Nat.lt_succ_self _)
theorem dX2_weightAround_0 : decode cX2_weightAround 0 = .ok (.aload_n 0, 1) := by decide +kernel
theorem dX2_weightAround_1 : decode cX2_weightAround 1 = .ok (.iload_n 2, 1) := by decide +kernel
theorem dX2_weightAround_2 : decode cX2_weightAround 2 = .ok (.iload_n 3, 1) := by decide +kernel
theorem dX2_weightAround_3 : decode cX2_weightAround 3 = .ok (.invokevirtual 58, 3) := by decide +kernel
theorem dX2_weightAround_6 : decode cX2_weightAround 6 = .ok (.i2l, 1) := by decide +kernel
theorem dX2_weightAround_7 : decode cX2_weightAround 7 = .ok (.lstore 4, 2) := by decide +kernel
theorem dX2_weightAround_9 : decode cX2_weightAround 9 = .ok (.aload_n 0, 1) := by decide +kernel
theorem dX2_weightAround_10 : decode cX2_weightAround 10 = .ok (.getfield 32, 3) := by decide +kernel
theorem dX2_weightAround_13 : decode cX2_weightAround 13 = .ok (.getfield 74, 3) := by decide +kernel
theorem dX2_weightAround_16 : decode cX2_weightAround 16 = .ok (.iload_n 2, 1) := by decide +kernel
theorem dX2_weightAround_17 : decode cX2_weightAround 17 = .ok (.aaload, 1) := by decide +kernel
theorem dX2_weightAround_18 : decode cX2_weightAround 18 = .ok (.astore 6, 2) := by decide +kernel
theorem dX2_weightAround_20 : decode cX2_weightAround 20 = .ok (.iconst 0, 1) := by decide +kernel
theorem dX2_weightAround_21 : decode cX2_weightAround 21 = .ok (.istore 7, 2) := by decide +kernel
theorem dX2_weightAround_23 : decode cX2_weightAround 23 = .ok (.iload 7, 2) := by decide +kernel
theorem dX2_weightAround_25 : decode cX2_weightAround 25 = .ok (.aload_n 0, 1) := by decide +kernel
theorem dX2_weightAround_26 : decode cX2_weightAround 26 = .ok (.getfield 32, 3) := by decide +kernel
theorem dX2_weightAround_29 : decode cX2_weightAround 29 = .ok (.getfield 78, 3) := by decide +kernel
theorem dX2_weightAround_32 : decode cX2_weightAround 32 = .ok (.iload_n 2, 1) := by decide +kernel
theorem dX2_weightAround_33 : decode cX2_weightAround 33 = .ok (.iaload, 1) := by decide +kernel
theorem dX2_weightAround_34 : decode cX2_weightAround 34 = .ok (.if_icmp .ge 27, 3) := by decide +kernel
theorem dX2_weightAround_37 : decode cX2_weightAround 37 = .ok (.lload 4, 2) := by decide +kernel
theorem dX2_weightAround_39 : decode cX2_weightAround 39 = .ok (.aload_n 0, 1) := by decide +kernel
theorem dX2_weightAround_40 : decode cX2_weightAround 40 = .ok (.iload_n 3, 1) := by decide +kernel
theorem dX2_weightAround_41 : decode cX2_weightAround 41 = .ok (.aload_n 1, 1) := by decide +kernel
theorem dX2_weightAround_42 : decode cX2_weightAround 42 = .ok (.aload 6, 2) := by decide +kernel
theorem dX2_weightAround_44 : decode cX2_weightAround 44 = .ok (.iload 7, 2) := by decide +kernel
theorem dX2_weightAround_46 : decode cX2_weightAround 46 = .ok (.iaload, 1) := by decide +kernel
theorem dX2_weightAround_47 : decode cX2_weightAround 47 = .ok (.iaload, 1) := by decide +kernel
theorem dX2_weightAround_48 : decode cX2_weightAround 48 = .ok (.invokevirtual 71, 3) := by decide +kernel
theorem dX2_weightAround_51 : decode cX2_weightAround 51 = .ok (.i2l, 1) := by decide +kernel
theorem dX2_weightAround_52 : decode cX2_weightAround 52 = .ok (.lmul, 1) := by decide +kernel
theorem dX2_weightAround_53 : decode cX2_weightAround 53 = .ok (.lstore 4, 2) := by decide +kernel
theorem dX2_weightAround_55 : decode cX2_weightAround 55 = .ok (.iinc 7 1, 3) := by decide +kernel
theorem dX2_weightAround_58 : decode cX2_weightAround 58 = .ok (.goto (-35), 3) := by decide +kernel
theorem dX2_weightAround_61 : decode cX2_weightAround 61 = .ok (.lload 4, 2) := by decide +kernel
theorem dX2_weightAround_63 : decode cX2_weightAround 63 = .ok (.lreturn, 1) := by decide +kernel
def rX2_weightAround : Room := { frames := 2, cells := 0, slots := 0, locals := 43 }
theorem yk_X2_weightAround : YK yX2_weightAround cX2_weightAround 8 (some .long) 3 := ⟨xim_X2_weightAround, xse_X2_weightAround, xin_X2, xco_X2_weightAround, by decide +kernel⟩
set_option maxRecDepth 4000 in
theorem c_X2_weightAround {l : Launch} {D : va_G} {t : Nat → ClassId} {a : Nat → Nat} {I : Nat → Int32} {F : Nat → Nat → Int32} {L : Nat → Int64} {K : Cfg} (hK : CFG K I F) (hW : WFK K) (j : Nat) (h6 : 6 ≤ j) (hj : j < 13) {f : Nat → Nat} (hS : RA (kn K) (F j) f) (p : Nat) (hp : p < kn K) (x : Nat) (hx : x ≤ 5) : CT l D t yX2_weightAround cX2_weightAround 8 (some .long) rX2_weightAround 0 0 [.ref (a 2), .ref (a (8 + j)), .int (nI p), .int (nI x)] (WX a t I F L) (RP (.long (lN (waN K f p x))) (WX a t I F L)) := by
  refine CT.of (by decide +kernel) (by simp [lg_sl, Value.category]) (fun X C hR => ?_)
  refine xlocals (lv' := [(0, .ref (a 2)), (1, .ref (a (8 + j))), (2, .int (nI p)), (3, .int (nI x))]) rfl ?_
  have fn24 := hW.n24; have fm60 := hW.m60; have fk2 := hW.k2; have fu1 := hW.u1; have fu9 := hW.u9; have fv1 := hW.v1; have fv9 := hW.v9
  refine xaload_n C 0 rfl dX2_weightAround_0 ?_
  refine xiload_n C 2 rfl dX2_weightAround_1 ?_
  refine xiload_n C 3 rfl dX2_weightAround_2 ?_
  refine xcVR C (c_X2_placeWeight hK hW p (by omega) x (by omega)) yk_X2_placeWeight 2 rfl rfl xml_X2_58 ⟨⟨Nat.le_of_ble_eq_true rfl, Nat.le_of_ble_eq_true rfl⟩, ⟨rfl, rfl⟩, ⟨Nat.zero_le _, Nat.zero_le _⟩⟩ rfl (Nat.le_of_ble_eq_true rfl) dX2_weightAround_3 ?_
  have fp3 := pwN_le hW p x
  refine xi2lN C (by omega) dX2_weightAround_6 ?_
  refine xlstore (lv' := [(4, .long (lN (pwN K p x))), (0, .ref (a 2)), (1, .ref (a (8 + j))), (2, .int (nI p)), (3, .int (nI x))]) C dX2_weightAround_7 (by decide) rfl ?_
  refine xaload_n C 1 rfl dX2_weightAround_9 ?_
  refine gX2_32 C dX2_weightAround_10 ?_
  refine gX2_74 C dX2_weightAround_13 ?_
  refine xiload_n C 3 rfl dX2_weightAround_16 ?_
  refine xa_out C p (by omega) dX2_weightAround_17 ?_
  refine xastore (lv' := [(6, .ref (a (8 + (13 + p)))), (4, .long (lN (pwN K p x))), (0, .ref (a 2)), (1, .ref (a (8 + j))), (2, .int (nI p)), (3, .int (nI x))]) C dX2_weightAround_18 (by decide) rfl ?_
  refine xlocals (lv' := [(6, .ref (a (8 + (13 + p)))), (4, .long (lN (pwN K p x * pr (fun i => lwN K x (f (knb K p i))) 0))), (0, .ref (a 2)), (1, .ref (a (8 + j))), (2, .int (nI p)), (3, .int (nI x))]) (by rw [show pr (fun i => lwN K x (f (knb K p i))) 0 = 1 from rfl, Nat.mul_one]) ?_
  refine xiconst (v := nI 0) C dX2_weightAround_20 (by decide) ?_
  refine xistore (lv' := [(7, .int (nI 0)), (6, .ref (a (8 + (13 + p)))), (4, .long (lN (pwN K p x * pr (fun i => lwN K x (f (knb K p i))) 0))), (0, .ref (a 2)), (1, .ref (a (8 + j))), (2, .int (nI p)), (3, .int (nI x))]) C dX2_weightAround_21 (by decide) rfl ?_
  have LP23 : ∀ (fu23 : Nat) (i : Nat) (hi : i ≤ kdg K p), kdg K p - i < fu23 → XW X 0 0 (WX a t I F L) [(0, .ref (a 2)), (1, .ref (a (8 + j))), (2, .int (nI p)), (3, .int (nI x)), (4, .long (lN (pwN K p x * pr (fun i => lwN K x (f (knb K p i))) i))), (6, .ref (a (8 + (13 + p)))), (7, .int (nI i))] 23 [] := by
    intro fu23
    induction fu23 with
    | zero => intro i hi hm23; exact absurd hm23 (Nat.not_lt_zero _)
    | succ fu23 ih23 =>
      intro i hi hm23
      refine xiload C 6 rfl dX2_weightAround_23 ?_
      refine xaload_n C 0 rfl dX2_weightAround_25 ?_
      refine gX2_32 C dX2_weightAround_26 ?_
      refine gX2_78 C dX2_weightAround_29 ?_
      refine xiload_n C 2 rfl dX2_weightAround_32 ?_
      refine xa_dg C hK hW p (by omega) dX2_weightAround_33 ?_
      have fb33 := hW.dg6 p
      refine xicmp_geN C 61 dX2_weightAround_34 (by decide) (by omega) (by omega) (fun h34 => ?_) (fun h34 => ?_)
      ·
        refine xlload C 4 rfl dX2_weightAround_61 ?_
        exact xlret C hR dX2_weightAround_63 (RPl (by (have e : i = kdg K p := (by omega)); subst e; rfl))
      ·
        refine xlload C 4 rfl dX2_weightAround_37 ?_
        refine xaload_n C 0 rfl dX2_weightAround_39 ?_
        refine xiload_n C 3 rfl dX2_weightAround_40 ?_
        refine xaload_n C 1 rfl dX2_weightAround_41 ?_
        refine xaload C 5 rfl dX2_weightAround_42 ?_
        refine xiload C 6 rfl dX2_weightAround_44 ?_
        refine xa_nb C hK hW p i (by omega) (by omega) dX2_weightAround_46 ?_
        have fb46 := hW.nb (show p < kn K by omega) (show i < kdg K p by omega)
        refine xa_st C hW j h6 hj hS (knb K p i) (by omega) dX2_weightAround_47 ?_
        have fb47 := (hS (knb K p i) (by omega)).2
        refine xcVR C (c_X2_linkWeight hK hW x (f (knb K p i)) (by omega) (by omega)) yk_X2_linkWeight 2 rfl rfl xml_X2_71 ⟨⟨Nat.le_of_ble_eq_true rfl, Nat.le_of_ble_eq_true rfl⟩, ⟨rfl, rfl⟩, ⟨Nat.zero_le _, Nat.zero_le _⟩⟩ rfl (Nat.le_of_ble_eq_true rfl) dX2_weightAround_48 ?_
        have fl48 := lwN_le hW x (f (knb K p i))
        refine xi2lN C (by omega) dX2_weightAround_51 ?_
        refine xlmulN C dX2_weightAround_52 ?_
        refine xtopl (y := lN (pwN K p x * pr (fun i => lwN K x (f (knb K p i))) (i + 1))) (by rw [Nat.mul_assoc]; rfl) ?_
        refine xlstore (lv' := [(4, .long (lN (pwN K p x * pr (fun i => lwN K x (f (knb K p i))) (i + 1)))), (0, .ref (a 2)), (1, .ref (a (8 + j))), (2, .int (nI p)), (3, .int (nI x)), (6, .ref (a (8 + (13 + p)))), (7, .int (nI i))]) C dX2_weightAround_53 (by decide) rfl ?_
        refine xiincN (lv' := [(7, .int (nI (i + 1))), (4, .long (lN (pwN K p x * pr (fun i => lwN K x (f (knb K p i))) (i + 1)))), (0, .ref (a 2)), (1, .ref (a (8 + j))), (2, .int (nI p)), (3, .int (nI x)), (6, .ref (a (8 + (13 + p))))]) C 6 rfl dX2_weightAround_55 (by decide) rfl ?_
        refine xgoto C 23 dX2_weightAround_58 (by decide) ?_
        refine xsub [2, 3, 4, 5, 1, 6, 0] rfl ?_
        exact ih23 (i + 1) (by omega) (by omega)
  refine xsub [3, 4, 5, 6, 2, 1, 0] rfl ?_
  exact LP23 _ 0 (Nat.zero_le _) (Nat.lt_succ_self _)
theorem dX2_lowIsBelowHigh_0 : decode cX2_lowIsBelowHigh 0 = .ok (.iconst 0, 1) := by decide +kernel
theorem dX2_lowIsBelowHigh_1 : decode cX2_lowIsBelowHigh 1 = .ok (.istore_n 1, 1) := by decide +kernel
theorem dX2_lowIsBelowHigh_2 : decode cX2_lowIsBelowHigh 2 = .ok (.iload_n 1, 1) := by decide +kernel
theorem dX2_lowIsBelowHigh_3 : decode cX2_lowIsBelowHigh 3 = .ok (.aload_n 0, 1) := by decide +kernel
theorem dX2_lowIsBelowHigh_4 : decode cX2_lowIsBelowHigh 4 = .ok (.getfield 32, 3) := by decide +kernel
theorem dX2_lowIsBelowHigh_7 : decode cX2_lowIsBelowHigh 7 = .ok (.getfield 55, 3) := by decide +kernel
theorem dX2_lowIsBelowHigh_10 : decode cX2_lowIsBelowHigh 10 = .ok (.if_icmp .ge 26, 3) := by decide +kernel
theorem dX2_lowIsBelowHigh_13 : decode cX2_lowIsBelowHigh 13 = .ok (.aload_n 0, 1) := by decide +kernel
theorem dX2_lowIsBelowHigh_14 : decode cX2_lowIsBelowHigh 14 = .ok (.getfield 15, 3) := by decide +kernel
theorem dX2_lowIsBelowHigh_17 : decode cX2_lowIsBelowHigh 17 = .ok (.iload_n 1, 1) := by decide +kernel
theorem dX2_lowIsBelowHigh_18 : decode cX2_lowIsBelowHigh 18 = .ok (.iaload, 1) := by decide +kernel
theorem dX2_lowIsBelowHigh_19 : decode cX2_lowIsBelowHigh 19 = .ok (.aload_n 0, 1) := by decide +kernel
theorem dX2_lowIsBelowHigh_20 : decode cX2_lowIsBelowHigh 20 = .ok (.getfield 9, 3) := by decide +kernel
theorem dX2_lowIsBelowHigh_23 : decode cX2_lowIsBelowHigh 23 = .ok (.iload_n 1, 1) := by decide +kernel
theorem dX2_lowIsBelowHigh_24 : decode cX2_lowIsBelowHigh 24 = .ok (.iaload, 1) := by decide +kernel
theorem dX2_lowIsBelowHigh_25 : decode cX2_lowIsBelowHigh 25 = .ok (.if_icmp .le 5, 3) := by decide +kernel
theorem dX2_lowIsBelowHigh_28 : decode cX2_lowIsBelowHigh 28 = .ok (.iconst 0, 1) := by decide +kernel
theorem dX2_lowIsBelowHigh_29 : decode cX2_lowIsBelowHigh 29 = .ok (.ireturn, 1) := by decide +kernel
theorem dX2_lowIsBelowHigh_30 : decode cX2_lowIsBelowHigh 30 = .ok (.iinc 1 1, 3) := by decide +kernel
theorem dX2_lowIsBelowHigh_33 : decode cX2_lowIsBelowHigh 33 = .ok (.goto (-31), 3) := by decide +kernel
theorem dX2_lowIsBelowHigh_36 : decode cX2_lowIsBelowHigh 36 = .ok (.iconst 1, 1) := by decide +kernel
theorem dX2_lowIsBelowHigh_37 : decode cX2_lowIsBelowHigh 37 = .ok (.ireturn, 1) := by decide +kernel
def rX2_lowIsBelowHigh : Room := { frames := 0, cells := 0, slots := 0, locals := 0 }
theorem yk_X2_lowIsBelowHigh : YK yX2_lowIsBelowHigh cX2_lowIsBelowHigh 2 (some .boolean) 0 := ⟨xim_X2_lowIsBelowHigh, xse_X2_lowIsBelowHigh, xin_X2, xco_X2_lowIsBelowHigh, by decide +kernel⟩
set_option maxRecDepth 4000 in
theorem c_X2_lowIsBelowHigh {l : Launch} {D : va_G} {t : Nat → ClassId} {a : Nat → Nat} {I : Nat → Int32} {F : Nat → Nat → Int32} {L : Nat → Int64} {K : Cfg} (hK : CFG K I F) (hW : WFK K) {hi lo : Nat → Nat} (hH : RA (kn K) (F 6) hi) (hL : RA (kn K) (F 7) lo) : CT l D t yX2_lowIsBelowHigh cX2_lowIsBelowHigh 2 (some .boolean) rX2_lowIsBelowHigh 0 0 [.ref (a 2)] (WX a t I F L) (RP (.int (nI (bn (∀ p, p < kn K → lo p ≤ hi p)))) (WX a t I F L)) := by
  refine CT.of (by decide +kernel) (by simp [lg_sl, Value.category]) (fun X C hR => ?_)
  refine xlocals (lv' := [(0, .ref (a 2))]) rfl ?_
  have fn24 := hW.n24; have fm60 := hW.m60; have fk2 := hW.k2; have fu1 := hW.u1; have fu9 := hW.u9; have fv1 := hW.v1; have fv9 := hW.v9
  refine xiconst (v := nI 0) C dX2_lowIsBelowHigh_0 (by decide) ?_
  refine xistore_n (lv' := [(1, .int (nI 0)), (0, .ref (a 2))]) C dX2_lowIsBelowHigh_1 (by decide) rfl ?_
  have LP2 : ∀ (fu2 : Nat) (i : Nat) (hi1 : i ≤ kn K) (ha : ∀ p, p < i → lo p ≤ hi p), kn K - i < fu2 → XW X 0 0 (WX a t I F L) [(0, .ref (a 2)), (1, .int (nI i))] 2 [] := by
    intro fu2
    induction fu2 with
    | zero => intro i hi1 ha hm2; exact absurd hm2 (Nat.not_lt_zero _)
    | succ fu2 ih2 =>
      intro i hi1 ha hm2
      refine xiload_n C 1 rfl dX2_lowIsBelowHigh_2 ?_
      refine xaload_n C 0 rfl dX2_lowIsBelowHigh_3 ?_
      refine gX2_32 C dX2_lowIsBelowHigh_4 ?_
      refine gX2_55K C hK dX2_lowIsBelowHigh_7 ?_
      refine xicmp_geN C 36 dX2_lowIsBelowHigh_10 (by decide) (by omega) (by omega) (fun h10 => ?_) (fun h10 => ?_)
      ·
        refine xiconst (v := nI 1) C dX2_lowIsBelowHigh_36 (by decide) ?_
        exact xret C hR (by rfl) dX2_lowIsBelowHigh_37 (RPn ((bn_t (fun p h => ha p (by omega))).symm))
      ·
        refine xaload_n C 0 rfl dX2_lowIsBelowHigh_13 ?_
        refine gX2_15 C dX2_lowIsBelowHigh_14 ?_
        refine xiload_n C 1 rfl dX2_lowIsBelowHigh_17 ?_
        refine xa_st C hW 7 (by omega) (by omega) hL i (by omega) dX2_lowIsBelowHigh_18 ?_
        have fb18 := (hL i (by omega)).2
        refine xaload_n C 0 rfl dX2_lowIsBelowHigh_19 ?_
        refine gX2_9 C dX2_lowIsBelowHigh_20 ?_
        refine xiload_n C 1 rfl dX2_lowIsBelowHigh_23 ?_
        refine xa_st C hW 6 (by omega) (by omega) hH i (by omega) dX2_lowIsBelowHigh_24 ?_
        have fb24 := (hH i (by omega)).2
        refine xicmp_leN C 30 dX2_lowIsBelowHigh_25 (by decide) (by omega) (by omega) (fun h25 => ?_) (fun h25 => ?_)
        ·
          refine xiincN (lv' := [(1, .int (nI (i + 1))), (0, .ref (a 2))]) C 1 rfl dX2_lowIsBelowHigh_30 (by decide) rfl ?_
          refine xgoto C 2 dX2_lowIsBelowHigh_33 (by decide) ?_
          refine xsub [1, 0] rfl ?_
          exact ih2 (i + 1) (by omega) (lt_s ha h25) (by omega)
        ·
          refine xiconst (v := nI 0) C dX2_lowIsBelowHigh_28 (by decide) ?_
          exact xret C hR (by rfl) dX2_lowIsBelowHigh_29 (RPn ((bn_f (fun q => absurd (q i (by omega)) (by omega))).symm))
  refine xsub [1, 0] rfl ?_
  exact LP2 _ 0 (Nat.zero_le _) (fun p h => absurd h (Nat.not_lt_zero _)) (Nat.lt_succ_self _)
theorem dX2_linksCrossSides_0 : decode cX2_linksCrossSides 0 = .ok (.iconst 0, 1) := by decide +kernel
theorem dX2_linksCrossSides_1 : decode cX2_linksCrossSides 1 = .ok (.istore_n 1, 1) := by decide +kernel
theorem dX2_linksCrossSides_2 : decode cX2_linksCrossSides 2 = .ok (.iload_n 1, 1) := by decide +kernel
theorem dX2_linksCrossSides_3 : decode cX2_linksCrossSides 3 = .ok (.aload_n 0, 1) := by decide +kernel
theorem dX2_linksCrossSides_4 : decode cX2_linksCrossSides 4 = .ok (.getfield 32, 3) := by decide +kernel
theorem dX2_linksCrossSides_7 : decode cX2_linksCrossSides 7 = .ok (.getfield 62, 3) := by decide +kernel
theorem dX2_linksCrossSides_10 : decode cX2_linksCrossSides 10 = .ok (.if_icmp .ge 48, 3) := by decide +kernel
theorem dX2_linksCrossSides_13 : decode cX2_linksCrossSides 13 = .ok (.aload_n 0, 1) := by decide +kernel
theorem dX2_linksCrossSides_14 : decode cX2_linksCrossSides 14 = .ok (.getfield 32, 3) := by decide +kernel
theorem dX2_linksCrossSides_17 : decode cX2_linksCrossSides 17 = .ok (.getfield 41, 3) := by decide +kernel
theorem dX2_linksCrossSides_20 : decode cX2_linksCrossSides 20 = .ok (.aload_n 0, 1) := by decide +kernel
theorem dX2_linksCrossSides_21 : decode cX2_linksCrossSides 21 = .ok (.getfield 32, 3) := by decide +kernel
theorem dX2_linksCrossSides_24 : decode cX2_linksCrossSides 24 = .ok (.getfield 65, 3) := by decide +kernel
theorem dX2_linksCrossSides_27 : decode cX2_linksCrossSides 27 = .ok (.iload_n 1, 1) := by decide +kernel
theorem dX2_linksCrossSides_28 : decode cX2_linksCrossSides 28 = .ok (.iaload, 1) := by decide +kernel
theorem dX2_linksCrossSides_29 : decode cX2_linksCrossSides 29 = .ok (.iaload, 1) := by decide +kernel
theorem dX2_linksCrossSides_30 : decode cX2_linksCrossSides 30 = .ok (.aload_n 0, 1) := by decide +kernel
theorem dX2_linksCrossSides_31 : decode cX2_linksCrossSides 31 = .ok (.getfield 32, 3) := by decide +kernel
theorem dX2_linksCrossSides_34 : decode cX2_linksCrossSides 34 = .ok (.getfield 41, 3) := by decide +kernel
theorem dX2_linksCrossSides_37 : decode cX2_linksCrossSides 37 = .ok (.aload_n 0, 1) := by decide +kernel
theorem dX2_linksCrossSides_38 : decode cX2_linksCrossSides 38 = .ok (.getfield 32, 3) := by decide +kernel
theorem dX2_linksCrossSides_41 : decode cX2_linksCrossSides 41 = .ok (.getfield 68, 3) := by decide +kernel
theorem dX2_linksCrossSides_44 : decode cX2_linksCrossSides 44 = .ok (.iload_n 1, 1) := by decide +kernel
theorem dX2_linksCrossSides_45 : decode cX2_linksCrossSides 45 = .ok (.iaload, 1) := by decide +kernel
theorem dX2_linksCrossSides_46 : decode cX2_linksCrossSides 46 = .ok (.iaload, 1) := by decide +kernel
theorem dX2_linksCrossSides_47 : decode cX2_linksCrossSides 47 = .ok (.if_icmp .ne 5, 3) := by decide +kernel
theorem dX2_linksCrossSides_50 : decode cX2_linksCrossSides 50 = .ok (.iconst 0, 1) := by decide +kernel
theorem dX2_linksCrossSides_51 : decode cX2_linksCrossSides 51 = .ok (.ireturn, 1) := by decide +kernel
theorem dX2_linksCrossSides_52 : decode cX2_linksCrossSides 52 = .ok (.iinc 1 1, 3) := by decide +kernel
theorem dX2_linksCrossSides_55 : decode cX2_linksCrossSides 55 = .ok (.goto (-53), 3) := by decide +kernel
theorem dX2_linksCrossSides_58 : decode cX2_linksCrossSides 58 = .ok (.iconst 1, 1) := by decide +kernel
theorem dX2_linksCrossSides_59 : decode cX2_linksCrossSides 59 = .ok (.ireturn, 1) := by decide +kernel
def rX2_linksCrossSides : Room := { frames := 0, cells := 0, slots := 0, locals := 0 }
theorem yk_X2_linksCrossSides : YK yX2_linksCrossSides cX2_linksCrossSides 2 (some .boolean) 0 := ⟨xim_X2_linksCrossSides, xse_X2_linksCrossSides, xin_X2, xco_X2_linksCrossSides, by decide +kernel⟩
set_option maxRecDepth 4000 in
theorem c_X2_linksCrossSides {l : Launch} {D : va_G} {t : Nat → ClassId} {a : Nat → Nat} {I : Nat → Int32} {F : Nat → Nat → Int32} {L : Nat → Int64} {K : Cfg} (hK : CFG K I F) (hW : WFK K)  : CT l D t yX2_linksCrossSides cX2_linksCrossSides 2 (some .boolean) rX2_linksCrossSides 0 0 [.ref (a 2)] (WX a t I F L) (RP (.int (nI (bn (crossP K)))) (WX a t I F L)) := by
  refine CT.of (by decide +kernel) (by simp [lg_sl, Value.category]) (fun X C hR => ?_)
  refine xlocals (lv' := [(0, .ref (a 2))]) rfl ?_
  have fn24 := hW.n24; have fm60 := hW.m60; have fk2 := hW.k2; have fu1 := hW.u1; have fu9 := hW.u9; have fv1 := hW.v1; have fv9 := hW.v9
  refine xiconst (v := nI 0) C dX2_linksCrossSides_0 (by decide) ?_
  refine xistore_n (lv' := [(1, .int (nI 0)), (0, .ref (a 2))]) C dX2_linksCrossSides_1 (by decide) rfl ?_
  have LP2 : ∀ (fu2 : Nat) (k : Nat) (hk : k ≤ km K) (ha : ∀ q, q < k → ksi K (kla K q) ≠ ksi K (klb K q)), km K - k < fu2 → XW X 0 0 (WX a t I F L) [(0, .ref (a 2)), (1, .int (nI k))] 2 [] := by
    intro fu2
    induction fu2 with
    | zero => intro k hk ha hm2; exact absurd hm2 (Nat.not_lt_zero _)
    | succ fu2 ih2 =>
      intro k hk ha hm2
      refine xiload_n C 1 rfl dX2_linksCrossSides_2 ?_
      refine xaload_n C 0 rfl dX2_linksCrossSides_3 ?_
      refine gX2_32 C dX2_linksCrossSides_4 ?_
      refine gX2_62K C hK dX2_linksCrossSides_7 ?_
      refine xicmp_geN C 58 dX2_linksCrossSides_10 (by decide) (by omega) (by omega) (fun h10 => ?_) (fun h10 => ?_)
      ·
        refine xiconst (v := nI 1) C dX2_linksCrossSides_58 (by decide) ?_
        exact xret C hR (by rfl) dX2_linksCrossSides_59 (RPn ((bn_t (fun p h => ha p (by omega))).symm))
      ·
        refine xaload_n C 0 rfl dX2_linksCrossSides_13 ?_
        refine gX2_32 C dX2_linksCrossSides_14 ?_
        refine gX2_41 C dX2_linksCrossSides_17 ?_
        refine xaload_n C 0 rfl dX2_linksCrossSides_20 ?_
        refine gX2_32 C dX2_linksCrossSides_21 ?_
        refine gX2_65 C dX2_linksCrossSides_24 ?_
        refine xiload_n C 1 rfl dX2_linksCrossSides_27 ?_
        refine xa_la C hK hW k (by omega) dX2_linksCrossSides_28 ?_
        have fb28 := (hW.la (by omega))
        refine xa_si C hK hW (kla K k) (by omega) dX2_linksCrossSides_29 ?_
        have fb29 := (hW.si1 (by omega))
        refine xaload_n C 0 rfl dX2_linksCrossSides_30 ?_
        refine gX2_32 C dX2_linksCrossSides_31 ?_
        refine gX2_41 C dX2_linksCrossSides_34 ?_
        refine xaload_n C 0 rfl dX2_linksCrossSides_37 ?_
        refine gX2_32 C dX2_linksCrossSides_38 ?_
        refine gX2_68 C dX2_linksCrossSides_41 ?_
        refine xiload_n C 1 rfl dX2_linksCrossSides_44 ?_
        refine xa_lb C hK hW k (by omega) dX2_linksCrossSides_45 ?_
        have fb45 := (hW.lb (by omega))
        refine xa_si C hK hW (klb K k) (by omega) dX2_linksCrossSides_46 ?_
        have fb46 := (hW.si1 (by omega))
        refine xicmp_neN C 52 dX2_linksCrossSides_47 (by decide) (by omega) (by omega) (fun h47 => ?_) (fun h47 => ?_)
        ·
          refine xiincN (lv' := [(1, .int (nI (k + 1))), (0, .ref (a 2))]) C 1 rfl dX2_linksCrossSides_52 (by decide) rfl ?_
          refine xgoto C 2 dX2_linksCrossSides_55 (by decide) ?_
          refine xsub [1, 0] rfl ?_
          exact ih2 (k + 1) (by omega) (lt_s ha h47) (by omega)
        ·
          refine xiconst (v := nI 0) C dX2_linksCrossSides_50 (by decide) ?_
          exact xret C hR (by rfl) dX2_linksCrossSides_51 (RPn ((bn_f (fun q => q k (by omega) h47)).symm))
  refine xsub [1, 0] rfl ?_
  exact LP2 _ 0 (Nat.zero_le _) (fun p h => absurd h (Nat.not_lt_zero _)) (Nat.lt_succ_self _)
theorem dX2_isSound_0 : decode cX2_isSound 0 = .ok (.aload_n 0, 1) := by decide +kernel
theorem dX2_isSound_1 : decode cX2_isSound 1 = .ok (.getfield 18, 3) := by decide +kernel
theorem dX2_isSound_4 : decode cX2_isSound 4 = .ok (.lookupswitch 50 #[(0, 28), (1, 45)], 28) := by decide +kernel
theorem dX2_isSound_32 : decode cX2_isSound 32 = .ok (.aload_n 0, 1) := by decide +kernel
theorem dX2_isSound_33 : decode cX2_isSound 33 = .ok (.getfield 22, 3) := by decide +kernel
theorem dX2_isSound_36 : decode cX2_isSound 36 = .ok (.aload_n 0, 1) := by decide +kernel
theorem dX2_isSound_37 : decode cX2_isSound 37 = .ok (.getfield 25, 3) := by decide +kernel
theorem dX2_isSound_40 : decode cX2_isSound 40 = .ok (.if_icmp .lt 7, 3) := by decide +kernel
theorem dX2_isSound_43 : decode cX2_isSound 43 = .ok (.iconst 1, 1) := by decide +kernel
theorem dX2_isSound_44 : decode cX2_isSound 44 = .ok (.goto 4, 3) := by decide +kernel
theorem dX2_isSound_47 : decode cX2_isSound 47 = .ok (.iconst 0, 1) := by decide +kernel
theorem dX2_isSound_48 : decode cX2_isSound 48 = .ok (.ireturn, 1) := by decide +kernel
theorem dX2_isSound_49 : decode cX2_isSound 49 = .ok (.aload_n 0, 1) := by decide +kernel
theorem dX2_isSound_50 : decode cX2_isSound 50 = .ok (.invokevirtual 99, 3) := by decide +kernel
theorem dX2_isSound_53 : decode cX2_isSound 53 = .ok (.ireturn, 1) := by decide +kernel
theorem dX2_isSound_54 : decode cX2_isSound 54 = .ok (.aload_n 0, 1) := by decide +kernel
theorem dX2_isSound_55 : decode cX2_isSound 55 = .ok (.invokevirtual 102, 3) := by decide +kernel
theorem dX2_isSound_58 : decode cX2_isSound 58 = .ok (.ireturn, 1) := by decide +kernel
def rX2_isSound : Room := { frames := 1, cells := 0, slots := 0, locals := 21 }
theorem yk_X2_isSound : YK yX2_isSound cX2_isSound 1 (some .boolean) 0 := ⟨xim_X2_isSound, xse_X2_isSound, xin_X2, xco_X2_isSound, by decide +kernel⟩
set_option maxRecDepth 4000 in
theorem c_X2_isSound {l : Launch} {D : va_G} {t : Nat → ClassId} {a : Nat → Nat} {I : Nat → Int32} {F : Nat → Nat → Int32} {L : Nat → Int64} {K : Cfg} (hK : CFG K I F) (hW : WFK K) {hi lo : Nat → Nat} (hH : RA (kn K) (F 6) hi) (hL : RA (kn K) (F 7) lo) : CT l D t yX2_isSound cX2_isSound 1 (some .boolean) rX2_isSound 0 0 [.ref (a 2)] (WX a t I F L) (RP (.int (nI (bn (soundP K lo hi)))) (WX a t I F L)) := by
  refine CT.of (by decide +kernel) (by simp [lg_sl, Value.category]) (fun X C hR => ?_)
  refine xlocals (lv' := [(0, .ref (a 2))]) rfl ?_
  have fn24 := hW.n24; have fm60 := hW.m60; have fk2 := hW.k2; have fu1 := hW.u1; have fu9 := hW.u9; have fv1 := hW.v1; have fv9 := hW.v9
  refine xaload_n C 0 rfl dX2_isSound_0 ?_
  refine gX2_18K C hK dX2_isSound_1 ?_
  rcases (show kk K = 0 ∨ kk K = 1 ∨ kk K = 2 by omega) with h4 | h4 | h4
  ·
    refine xtopi (y := nI 0) (by rw [h4]) ?_
    refine xlookup C 32 dX2_isSound_4 (by decide +kernel) (off := 28) (by decide +kernel) (by decide) ?_
    refine xaload_n C 0 rfl dX2_isSound_32 ?_
    refine gX2_22K C hK dX2_isSound_33 ?_
    refine xaload_n C 0 rfl dX2_isSound_36 ?_
    refine gX2_25K C hK dX2_isSound_37 ?_
    refine xicmp_ltN C 47 dX2_isSound_40 (by decide) (by omega) (by omega) (fun h40 => ?_) (fun h40 => ?_)
    ·
      refine xiconst (v := nI 0) C dX2_isSound_47 (by decide) ?_
      exact xret C hR (by rfl) dX2_isSound_48 (RPn ((bn_f (by unfold soundP; rw [if_pos h4]; omega)).symm))
    ·
      refine xiconst (v := nI 1) C dX2_isSound_43 (by decide) ?_
      refine xgoto C 48 dX2_isSound_44 (by decide) ?_
      exact xret C hR (by rfl) dX2_isSound_48 (RPn ((bn_t (by unfold soundP; rw [if_pos h4]; omega)).symm))
  ·
    refine xtopi (y := nI 1) (by rw [h4]) ?_
    refine xlookup C 49 dX2_isSound_4 (by decide +kernel) (off := 45) (by decide +kernel) (by decide) ?_
    refine xaload_n C 0 rfl dX2_isSound_49 ?_
    refine xcVR C (c_X2_lowIsBelowHigh hK hW hH hL) yk_X2_lowIsBelowHigh 2 rfl rfl xml_X2_99 ⟨⟨Nat.le_of_ble_eq_true rfl, Nat.le_of_ble_eq_true rfl⟩, ⟨rfl, rfl⟩, ⟨Nat.zero_le _, Nat.zero_le _⟩⟩ rfl (Nat.le_of_ble_eq_true rfl) dX2_isSound_50 ?_
    exact xret C hR (nar_bn _) dX2_isSound_53 (RPn (bn_iff (by unfold soundP; rw [if_neg (by omega), if_pos h4])))
  ·
    refine xtopi (y := nI 2) (by rw [h4]) ?_
    refine xlookup C 54 dX2_isSound_4 (by decide +kernel) (off := 50) (by decide +kernel) (by decide) ?_
    refine xaload_n C 0 rfl dX2_isSound_54 ?_
    refine xcVR C (c_X2_linksCrossSides hK hW) yk_X2_linksCrossSides 2 rfl rfl xml_X2_102 ⟨⟨Nat.le_of_ble_eq_true rfl, Nat.le_of_ble_eq_true rfl⟩, ⟨rfl, rfl⟩, ⟨Nat.zero_le _, Nat.zero_le _⟩⟩ rfl (Nat.le_of_ble_eq_true rfl) dX2_isSound_55 ?_
    exact xret C hR (nar_bn _) dX2_isSound_58 (RPn (bn_iff (by unfold soundP; rw [if_neg (by omega), if_neg (by omega)])))
theorem dX2_drawTogether_0 : decode cX2_drawTogether 0 = .ok (.iconst 0, 1) := by decide +kernel
theorem dX2_drawTogether_1 : decode cX2_drawTogether 1 = .ok (.istore_n 1, 1) := by decide +kernel
theorem dX2_drawTogether_2 : decode cX2_drawTogether 2 = .ok (.iload_n 1, 1) := by decide +kernel
theorem dX2_drawTogether_3 : decode cX2_drawTogether 3 = .ok (.aload_n 0, 1) := by decide +kernel
theorem dX2_drawTogether_4 : decode cX2_drawTogether 4 = .ok (.getfield 32, 3) := by decide +kernel
theorem dX2_drawTogether_7 : decode cX2_drawTogether 7 = .ok (.getfield 55, 3) := by decide +kernel
theorem dX2_drawTogether_10 : decode cX2_drawTogether 10 = .ok (.if_icmp .ge 147, 3) := by decide +kernel
theorem dX2_drawTogether_13 : decode cX2_drawTogether 13 = .ok (.iconst 0, 1) := by decide +kernel
theorem dX2_drawTogether_14 : decode cX2_drawTogether 14 = .ok (.istore_n 2, 1) := by decide +kernel
theorem dX2_drawTogether_15 : decode cX2_drawTogether 15 = .ok (.iload_n 2, 1) := by decide +kernel
theorem dX2_drawTogether_16 : decode cX2_drawTogether 16 = .ok (.aload_n 0, 1) := by decide +kernel
theorem dX2_drawTogether_17 : decode cX2_drawTogether 17 = .ok (.getfield 32, 3) := by decide +kernel
theorem dX2_drawTogether_20 : decode cX2_drawTogether 20 = .ok (.getfield 62, 3) := by decide +kernel
theorem dX2_drawTogether_23 : decode cX2_drawTogether 23 = .ok (.if_icmp .ge 128, 3) := by decide +kernel
theorem dX2_drawTogether_26 : decode cX2_drawTogether 26 = .ok (.aload_n 0, 1) := by decide +kernel
theorem dX2_drawTogether_27 : decode cX2_drawTogether 27 = .ok (.getfield 32, 3) := by decide +kernel
theorem dX2_drawTogether_30 : decode cX2_drawTogether 30 = .ok (.getfield 65, 3) := by decide +kernel
theorem dX2_drawTogether_33 : decode cX2_drawTogether 33 = .ok (.iload_n 2, 1) := by decide +kernel
theorem dX2_drawTogether_34 : decode cX2_drawTogether 34 = .ok (.iaload, 1) := by decide +kernel
theorem dX2_drawTogether_35 : decode cX2_drawTogether 35 = .ok (.istore_n 3, 1) := by decide +kernel
theorem dX2_drawTogether_36 : decode cX2_drawTogether 36 = .ok (.aload_n 0, 1) := by decide +kernel
theorem dX2_drawTogether_37 : decode cX2_drawTogether 37 = .ok (.getfield 32, 3) := by decide +kernel
theorem dX2_drawTogether_40 : decode cX2_drawTogether 40 = .ok (.getfield 68, 3) := by decide +kernel
theorem dX2_drawTogether_43 : decode cX2_drawTogether 43 = .ok (.iload_n 2, 1) := by decide +kernel
theorem dX2_drawTogether_44 : decode cX2_drawTogether 44 = .ok (.iaload, 1) := by decide +kernel
theorem dX2_drawTogether_45 : decode cX2_drawTogether 45 = .ok (.istore 4, 2) := by decide +kernel
theorem dX2_drawTogether_47 : decode cX2_drawTogether 47 = .ok (.aload_n 0, 1) := by decide +kernel
theorem dX2_drawTogether_48 : decode cX2_drawTogether 48 = .ok (.getfield 9, 3) := by decide +kernel
theorem dX2_drawTogether_51 : decode cX2_drawTogether 51 = .ok (.iload_n 3, 1) := by decide +kernel
theorem dX2_drawTogether_52 : decode cX2_drawTogether 52 = .ok (.aload_n 0, 1) := by decide +kernel
theorem dX2_drawTogether_53 : decode cX2_drawTogether 53 = .ok (.getfield 9, 3) := by decide +kernel
theorem dX2_drawTogether_56 : decode cX2_drawTogether 56 = .ok (.iload_n 3, 1) := by decide +kernel
theorem dX2_drawTogether_57 : decode cX2_drawTogether 57 = .ok (.iaload, 1) := by decide +kernel
theorem dX2_drawTogether_58 : decode cX2_drawTogether 58 = .ok (.aload_n 0, 1) := by decide +kernel
theorem dX2_drawTogether_59 : decode cX2_drawTogether 59 = .ok (.getfield 9, 3) := by decide +kernel
theorem dX2_drawTogether_62 : decode cX2_drawTogether 62 = .ok (.iload 4, 2) := by decide +kernel
theorem dX2_drawTogether_64 : decode cX2_drawTogether 64 = .ok (.iaload, 1) := by decide +kernel
theorem dX2_drawTogether_65 : decode cX2_drawTogether 65 = .ok (.iconst 1, 1) := by decide +kernel
theorem dX2_drawTogether_66 : decode cX2_drawTogether 66 = .ok (.iadd, 1) := by decide +kernel
theorem dX2_drawTogether_67 : decode cX2_drawTogether 67 = .ok (.invokestatic 91, 3) := by decide +kernel
theorem dX2_drawTogether_70 : decode cX2_drawTogether 70 = .ok (.iastore, 1) := by decide +kernel
theorem dX2_drawTogether_71 : decode cX2_drawTogether 71 = .ok (.aload_n 0, 1) := by decide +kernel
theorem dX2_drawTogether_72 : decode cX2_drawTogether 72 = .ok (.getfield 9, 3) := by decide +kernel
theorem dX2_drawTogether_75 : decode cX2_drawTogether 75 = .ok (.iload 4, 2) := by decide +kernel
theorem dX2_drawTogether_77 : decode cX2_drawTogether 77 = .ok (.aload_n 0, 1) := by decide +kernel
theorem dX2_drawTogether_78 : decode cX2_drawTogether 78 = .ok (.getfield 9, 3) := by decide +kernel
theorem dX2_drawTogether_81 : decode cX2_drawTogether 81 = .ok (.iload 4, 2) := by decide +kernel
theorem dX2_drawTogether_83 : decode cX2_drawTogether 83 = .ok (.iaload, 1) := by decide +kernel
theorem dX2_drawTogether_84 : decode cX2_drawTogether 84 = .ok (.aload_n 0, 1) := by decide +kernel
theorem dX2_drawTogether_85 : decode cX2_drawTogether 85 = .ok (.getfield 9, 3) := by decide +kernel
theorem dX2_drawTogether_88 : decode cX2_drawTogether 88 = .ok (.iload_n 3, 1) := by decide +kernel
theorem dX2_drawTogether_89 : decode cX2_drawTogether 89 = .ok (.iaload, 1) := by decide +kernel
theorem dX2_drawTogether_90 : decode cX2_drawTogether 90 = .ok (.iconst 1, 1) := by decide +kernel
theorem dX2_drawTogether_91 : decode cX2_drawTogether 91 = .ok (.iadd, 1) := by decide +kernel
theorem dX2_drawTogether_92 : decode cX2_drawTogether 92 = .ok (.invokestatic 91, 3) := by decide +kernel
theorem dX2_drawTogether_95 : decode cX2_drawTogether 95 = .ok (.iastore, 1) := by decide +kernel
theorem dX2_drawTogether_96 : decode cX2_drawTogether 96 = .ok (.aload_n 0, 1) := by decide +kernel
theorem dX2_drawTogether_97 : decode cX2_drawTogether 97 = .ok (.getfield 15, 3) := by decide +kernel
theorem dX2_drawTogether_100 : decode cX2_drawTogether 100 = .ok (.iload_n 3, 1) := by decide +kernel
theorem dX2_drawTogether_101 : decode cX2_drawTogether 101 = .ok (.aload_n 0, 1) := by decide +kernel
theorem dX2_drawTogether_102 : decode cX2_drawTogether 102 = .ok (.getfield 15, 3) := by decide +kernel
theorem dX2_drawTogether_105 : decode cX2_drawTogether 105 = .ok (.iload_n 3, 1) := by decide +kernel
theorem dX2_drawTogether_106 : decode cX2_drawTogether 106 = .ok (.iaload, 1) := by decide +kernel
theorem dX2_drawTogether_107 : decode cX2_drawTogether 107 = .ok (.aload_n 0, 1) := by decide +kernel
theorem dX2_drawTogether_108 : decode cX2_drawTogether 108 = .ok (.getfield 15, 3) := by decide +kernel
theorem dX2_drawTogether_111 : decode cX2_drawTogether 111 = .ok (.iload 4, 2) := by decide +kernel
theorem dX2_drawTogether_113 : decode cX2_drawTogether 113 = .ok (.iaload, 1) := by decide +kernel
theorem dX2_drawTogether_114 : decode cX2_drawTogether 114 = .ok (.iconst 1, 1) := by decide +kernel
theorem dX2_drawTogether_115 : decode cX2_drawTogether 115 = .ok (.isub, 1) := by decide +kernel
theorem dX2_drawTogether_116 : decode cX2_drawTogether 116 = .ok (.invokestatic 96, 3) := by decide +kernel
theorem dX2_drawTogether_119 : decode cX2_drawTogether 119 = .ok (.iastore, 1) := by decide +kernel
theorem dX2_drawTogether_120 : decode cX2_drawTogether 120 = .ok (.aload_n 0, 1) := by decide +kernel
theorem dX2_drawTogether_121 : decode cX2_drawTogether 121 = .ok (.getfield 15, 3) := by decide +kernel
theorem dX2_drawTogether_124 : decode cX2_drawTogether 124 = .ok (.iload 4, 2) := by decide +kernel
theorem dX2_drawTogether_126 : decode cX2_drawTogether 126 = .ok (.aload_n 0, 1) := by decide +kernel
theorem dX2_drawTogether_127 : decode cX2_drawTogether 127 = .ok (.getfield 15, 3) := by decide +kernel
theorem dX2_drawTogether_130 : decode cX2_drawTogether 130 = .ok (.iload 4, 2) := by decide +kernel
theorem dX2_drawTogether_132 : decode cX2_drawTogether 132 = .ok (.iaload, 1) := by decide +kernel
theorem dX2_drawTogether_133 : decode cX2_drawTogether 133 = .ok (.aload_n 0, 1) := by decide +kernel
theorem dX2_drawTogether_134 : decode cX2_drawTogether 134 = .ok (.getfield 15, 3) := by decide +kernel
theorem dX2_drawTogether_137 : decode cX2_drawTogether 137 = .ok (.iload_n 3, 1) := by decide +kernel
theorem dX2_drawTogether_138 : decode cX2_drawTogether 138 = .ok (.iaload, 1) := by decide +kernel
theorem dX2_drawTogether_139 : decode cX2_drawTogether 139 = .ok (.iconst 1, 1) := by decide +kernel
theorem dX2_drawTogether_140 : decode cX2_drawTogether 140 = .ok (.isub, 1) := by decide +kernel
theorem dX2_drawTogether_141 : decode cX2_drawTogether 141 = .ok (.invokestatic 96, 3) := by decide +kernel
theorem dX2_drawTogether_144 : decode cX2_drawTogether 144 = .ok (.iastore, 1) := by decide +kernel
theorem dX2_drawTogether_145 : decode cX2_drawTogether 145 = .ok (.iinc 2 1, 3) := by decide +kernel
theorem dX2_drawTogether_148 : decode cX2_drawTogether 148 = .ok (.goto (-133), 3) := by decide +kernel
theorem dX2_drawTogether_151 : decode cX2_drawTogether 151 = .ok (.iinc 1 1, 3) := by decide +kernel
theorem dX2_drawTogether_154 : decode cX2_drawTogether 154 = .ok (.goto (-152), 3) := by decide +kernel
theorem dX2_drawTogether_157 : decode cX2_drawTogether 157 = .ok (.return_, 1) := by decide +kernel
def rX2_drawTogether : Room := { frames := 1, cells := 0, slots := 0, locals := 21 }
theorem yk_X2_drawTogether : YK yX2_drawTogether cX2_drawTogether 5 none 0 := ⟨xim_X2_drawTogether, xse_X2_drawTogether, xin_X2, xco_X2_drawTogether, by decide +kernel⟩
set_option maxRecDepth 4000 in
theorem c_X2_drawTogether {l : Launch} {D : va_G} {t : Nat → ClassId} {a : Nat → Nat} {I : Nat → Int32} {F : Nat → Nat → Int32} {L : Nat → Int64} {K : Cfg} (hK : CFG K I F) (hW : WFK K) {hi lo : Nat → Nat} (hH : RA (kn K) (F 6) hi) (hL : RA (kn K) (F 7) lo) : CT l D t yX2_drawTogether cX2_drawTogether 5 none rX2_drawTogether 0 0 [.ref (a 2)] (WX a t I F L) (VP (fun w => ∃ F' : Nat → Nat → Int32, w = WX a t I F' L ∧ (∀ q, q ≠ 6 → q ≠ 7 → F' q = F q) ∧ RA (kn K) (F' 6) (rrH K hi (kn K)) ∧ RA (kn K) (F' 7) (rrL K lo (kn K)))) := by
  refine CT.of (by decide +kernel) (by simp [lg_sl, Value.category]) (fun X C hR => ?_)
  refine xlocals (lv' := [(0, .ref (a 2))]) rfl ?_
  have fn24 := hW.n24; have fm60 := hW.m60; have fk2 := hW.k2; have fu1 := hW.u1; have fu9 := hW.u9; have fv1 := hW.v1; have fv9 := hW.v9
  refine xiconst (v := nI 0) C dX2_drawTogether_0 (by decide) ?_
  refine xistore_n (lv' := [(1, .int (nI 0)), (0, .ref (a 2))]) C dX2_drawTogether_1 (by decide) rfl ?_
  have LP2 : ∀ (fu2 : Nat) (i : Nat) (FA : Nat → Nat → Int32) (hi1 : i ≤ kn K) (hXA : ∀ q, q ≠ 6 → q ≠ 7 → FA q = F q) (hHA : RA (kn K) (FA 6) (rrH K hi i)) (hLA : RA (kn K) (FA 7) (rrL K lo i)), kn K - i < fu2 → XW X 0 0 (WX a t I FA L) [(0, .ref (a 2)), (1, .int (nI i))] 2 [] := by
    intro fu2
    induction fu2 with
    | zero => intro i FA hi1 hXA hHA hLA hm2; exact absurd hm2 (Nat.not_lt_zero _)
    | succ fu2 ih2 =>
      intro i FA hi1 hXA hHA hLA hm2
      have hKA : CFG K I FA := hK.of (fun _ _ => rfl) (fun q hq => hXA q (by omega) (by omega))
      refine xiload_n C 1 rfl dX2_drawTogether_2 ?_
      refine xaload_n C 0 rfl dX2_drawTogether_3 ?_
      refine gX2_32 C dX2_drawTogether_4 ?_
      refine gX2_55K C hKA dX2_drawTogether_7 ?_
      refine xicmp_geN C 157 dX2_drawTogether_10 (by decide) (by omega) (by omega) (fun h10 => ?_) (fun h10 => ?_)
      ·
        exact xvret C hR dX2_drawTogether_157 ((show i = kn K by omega) ▸ (⟨rfl, FA, rfl, hXA, hHA, hLA⟩ : VP (fun w => ∃ F' : Nat → Nat → Int32, w = WX a t I F' L ∧ (∀ q, q ≠ 6 → q ≠ 7 → F' q = F q) ∧ RA (kn K) (F' 6) (rrH K hi i) ∧ RA (kn K) (F' 7) (rrL K lo i)) none _))
      ·
        refine xiconst (v := nI 0) C dX2_drawTogether_13 (by decide) ?_
        refine xistore_n (lv' := [(2, .int (nI 0)), (0, .ref (a 2)), (1, .int (nI i))]) C dX2_drawTogether_14 (by decide) rfl ?_
        have LP15 : ∀ (fu15 : Nat) (k : Nat) (FB : Nat → Nat → Int32) (hk : k ≤ km K) (hXB : ∀ q, q ≠ 6 → q ≠ 7 → FB q = F q) (hHB : RA (kn K) (FB 6) (rdH K (rrH K hi i) k)) (hLB : RA (kn K) (FB 7) (rdL K (rrL K lo i) k)), km K - k < fu15 → XW X 0 0 (WX a t I FB L) [(0, .ref (a 2)), (1, .int (nI i)), (2, .int (nI k))] 15 [] := by
          intro fu15
          induction fu15 with
          | zero => intro k FB hk hXB hHB hLB hm15; exact absurd hm15 (Nat.not_lt_zero _)
          | succ fu15 ih15 =>
            intro k FB hk hXB hHB hLB hm15
            have hKB : CFG K I FB := hK.of (fun _ _ => rfl) (fun q hq => hXB q (by omega) (by omega))
            refine xiload_n C 2 rfl dX2_drawTogether_15 ?_
            refine xaload_n C 0 rfl dX2_drawTogether_16 ?_
            refine gX2_32 C dX2_drawTogether_17 ?_
            refine gX2_62K C hKB dX2_drawTogether_20 ?_
            refine xicmp_geN C 151 dX2_drawTogether_23 (by decide) (by omega) (by omega) (fun h23 => ?_) (fun h23 => ?_)
            ·
              have ek : k = km K := by omega
              rw [ek] at hHB hLB
              refine xiincN (lv' := [(1, .int (nI (i + 1))), (0, .ref (a 2)), (2, .int (nI k))]) C 1 rfl dX2_drawTogether_151 (by decide) rfl ?_
              refine xgoto C 2 dX2_drawTogether_154 (by decide) ?_
              refine xsub [1, 0] rfl ?_
              exact ih2 (i + 1) FB (by omega) hXB (hHB) (hLB) (by omega)
            ·
              refine xaload_n C 0 rfl dX2_drawTogether_26 ?_
              refine gX2_32 C dX2_drawTogether_27 ?_
              refine gX2_65 C dX2_drawTogether_30 ?_
              refine xiload_n C 2 rfl dX2_drawTogether_33 ?_
              refine xa_la C hKB hW k (by omega) dX2_drawTogether_34 ?_
              have fb34 := (hW.la (by omega))
              refine xistore_n (lv' := [(3, .int (nI (kla K k))), (0, .ref (a 2)), (1, .int (nI i)), (2, .int (nI k))]) C dX2_drawTogether_35 (by decide) rfl ?_
              refine xaload_n C 1 rfl dX2_drawTogether_36 ?_
              refine gX2_32 C dX2_drawTogether_37 ?_
              refine gX2_68 C dX2_drawTogether_40 ?_
              refine xiload_n C 3 rfl dX2_drawTogether_43 ?_
              refine xa_lb C hKB hW k (by omega) dX2_drawTogether_44 ?_
              have fb44 := (hW.lb (by omega))
              refine xistore (lv' := [(4, .int (nI (klb K k))), (3, .int (nI (kla K k))), (0, .ref (a 2)), (1, .int (nI i)), (2, .int (nI k))]) C dX2_drawTogether_45 (by decide) rfl ?_
              refine xaload_n C 2 rfl dX2_drawTogether_47 ?_
              refine gX2_9 C dX2_drawTogether_48 ?_
              refine xiload_n C 1 rfl dX2_drawTogether_51 ?_
              refine xaload_n C 2 rfl dX2_drawTogether_52 ?_
              refine gX2_9 C dX2_drawTogether_53 ?_
              refine xiload_n C 1 rfl dX2_drawTogether_56 ?_
              refine xa_st C hW 6 (by omega) (by omega) hHB (kla K k) (by omega) dX2_drawTogether_57 ?_
              have fb57 := (hHB (kla K k) (by omega)).2
              refine xaload_n C 2 rfl dX2_drawTogether_58 ?_
              refine gX2_9 C dX2_drawTogether_59 ?_
              refine xiload C 0 rfl dX2_drawTogether_62 ?_
              refine xa_st C hW 6 (by omega) (by omega) hHB (klb K k) (by omega) dX2_drawTogether_64 ?_
              have fb64 := (hHB (klb K k) (by omega)).2
              refine xiconst (v := nI 1) C dX2_drawTogether_65 (by decide) ?_
              refine xiaddN C dX2_drawTogether_66 ?_
              refine xmin C xml_X2_91 (Nat.le_of_ble_eq_true rfl) (Nat.le_of_ble_eq_true rfl) ⟨Nat.le_of_ble_eq_true rfl, Nat.le_of_ble_eq_true rfl⟩ dX2_drawTogether_67 ?_
              have hv1 : min ((rdH K (rrH K hi i) k) (kla K k)) ((rdH K (rrH K hi i) k) (klb K k) + 1) ≤ 5 := by have := (hHB (kla K k) (by omega)).2; have := (hHB (klb K k) (by omega)).2; omega
              refine xtopi (y := nI (min ((rdH K (rrH K hi i) k) (kla K k)) ((rdH K (rrH K hi i) k) (klb K k) + 1))) (nmin' (by have := (hHB (kla K k) (by omega)).2; omega) (by have := (hHB (klb K k) (by omega)).2; omega)) ?_
              refine xs_st C 6 (by omega) (by omega) (kla K k) (by omega) dX2_drawTogether_70 ?_
              obtain ⟨F1, eF1⟩ : ∃ z : Nat → Nat → Int32, z = va_up FB 6 (upd (FB 6) (kla K k) (nI (min ((rdH K (rrH K hi i) k) (kla K k)) ((rdH K (rrH K hi i) k) (klb K k) + 1)))) := ⟨_, rfl⟩
              refine xworld (ws' := WX a t I F1 L) (by rw [eF1]) ?_
              have hK1 : CFG K I F1 := by rw [eF1]; exact hKB.upF (by omega) (by omega) _
              have hR1 : RA (kn K) (F1 6) (va_up (rdH K (rrH K hi i) k) (kla K k) (min ((rdH K (rrH K hi i) k) (kla K k)) ((rdH K (rrH K hi i) k) (klb K k) + 1))) := by rw [eF1, va_up_self]; exact hHB.up (by omega)
              have hO1 : RA (kn K) (F1 7) (rdL K (rrL K lo i) k) := by rw [eF1, va_up_ne _ _ (by decide)]; exact hLB
              have hX1 : ∀ q, q ≠ 6 → q ≠ 7 → F1 q = F q := fun q h1 h2 => by rw [eF1, va_up_ne _ _ (by omega)]; exact hXB q h1 h2
              refine xaload_n C 2 rfl dX2_drawTogether_71 ?_
              refine gX2_9 C dX2_drawTogether_72 ?_
              refine xiload C 0 rfl dX2_drawTogether_75 ?_
              refine xaload_n C 2 rfl dX2_drawTogether_77 ?_
              refine gX2_9 C dX2_drawTogether_78 ?_
              refine xiload C 0 rfl dX2_drawTogether_81 ?_
              refine xa_st C hW 6 (by omega) (by omega) hR1 (klb K k) (by omega) dX2_drawTogether_83 ?_
              have fb83 := (hR1 (klb K k) (by omega)).2
              refine xaload_n C 2 rfl dX2_drawTogether_84 ?_
              refine gX2_9 C dX2_drawTogether_85 ?_
              refine xiload_n C 1 rfl dX2_drawTogether_88 ?_
              refine xa_st C hW 6 (by omega) (by omega) hR1 (kla K k) (by omega) dX2_drawTogether_89 ?_
              have fb89 := (hR1 (kla K k) (by omega)).2
              refine xiconst (v := nI 1) C dX2_drawTogether_90 (by decide) ?_
              refine xiaddN C dX2_drawTogether_91 ?_
              refine xmin C xml_X2_91 (Nat.le_of_ble_eq_true rfl) (Nat.le_of_ble_eq_true rfl) ⟨Nat.le_of_ble_eq_true rfl, Nat.le_of_ble_eq_true rfl⟩ dX2_drawTogether_92 ?_
              have hv2 : min ((va_up (rdH K (rrH K hi i) k) (kla K k) (min ((rdH K (rrH K hi i) k) (kla K k)) ((rdH K (rrH K hi i) k) (klb K k) + 1))) (klb K k)) ((va_up (rdH K (rrH K hi i) k) (kla K k) (min ((rdH K (rrH K hi i) k) (kla K k)) ((rdH K (rrH K hi i) k) (klb K k) + 1))) (kla K k) + 1) ≤ 5 := by have := (hR1 (klb K k) (by omega)).2; have := (hR1 (kla K k) (by omega)).2; omega
              refine xtopi (y := nI (min ((va_up (rdH K (rrH K hi i) k) (kla K k) (min ((rdH K (rrH K hi i) k) (kla K k)) ((rdH K (rrH K hi i) k) (klb K k) + 1))) (klb K k)) ((va_up (rdH K (rrH K hi i) k) (kla K k) (min ((rdH K (rrH K hi i) k) (kla K k)) ((rdH K (rrH K hi i) k) (klb K k) + 1))) (kla K k) + 1))) (nmin' (by have := (hR1 (klb K k) (by omega)).2; omega) (by have := (hR1 (kla K k) (by omega)).2; omega)) ?_
              refine xs_st C 6 (by omega) (by omega) (klb K k) (by omega) dX2_drawTogether_95 ?_
              obtain ⟨F2, eF2⟩ : ∃ z : Nat → Nat → Int32, z = va_up F1 6 (upd (F1 6) (klb K k) (nI (min ((va_up (rdH K (rrH K hi i) k) (kla K k) (min ((rdH K (rrH K hi i) k) (kla K k)) ((rdH K (rrH K hi i) k) (klb K k) + 1))) (klb K k)) ((va_up (rdH K (rrH K hi i) k) (kla K k) (min ((rdH K (rrH K hi i) k) (kla K k)) ((rdH K (rrH K hi i) k) (klb K k) + 1))) (kla K k) + 1)))) := ⟨_, rfl⟩
              refine xworld (ws' := WX a t I F2 L) (by rw [eF2]) ?_
              have hK2 : CFG K I F2 := by rw [eF2]; exact hK1.upF (by omega) (by omega) _
              have hR2 : RA (kn K) (F2 6) (va_up (va_up (rdH K (rrH K hi i) k) (kla K k) (min ((rdH K (rrH K hi i) k) (kla K k)) ((rdH K (rrH K hi i) k) (klb K k) + 1))) (klb K k) (min ((va_up (rdH K (rrH K hi i) k) (kla K k) (min ((rdH K (rrH K hi i) k) (kla K k)) ((rdH K (rrH K hi i) k) (klb K k) + 1))) (klb K k)) ((va_up (rdH K (rrH K hi i) k) (kla K k) (min ((rdH K (rrH K hi i) k) (kla K k)) ((rdH K (rrH K hi i) k) (klb K k) + 1))) (kla K k) + 1))) := by rw [eF2, va_up_self]; exact hR1.up (by omega)
              have hO2 : RA (kn K) (F2 7) (rdL K (rrL K lo i) k) := by rw [eF2, va_up_ne _ _ (by decide)]; exact hO1
              have hX2 : ∀ q, q ≠ 6 → q ≠ 7 → F2 q = F q := fun q h1 h2 => by rw [eF2, va_up_ne _ _ (by omega)]; exact hX1 q h1 h2
              refine xaload_n C 2 rfl dX2_drawTogether_96 ?_
              refine gX2_15 C dX2_drawTogether_97 ?_
              refine xiload_n C 1 rfl dX2_drawTogether_100 ?_
              refine xaload_n C 2 rfl dX2_drawTogether_101 ?_
              refine gX2_15 C dX2_drawTogether_102 ?_
              refine xiload_n C 1 rfl dX2_drawTogether_105 ?_
              refine xa_st C hW 7 (by omega) (by omega) hO2 (kla K k) (by omega) dX2_drawTogether_106 ?_
              have fb106 := (hO2 (kla K k) (by omega)).2
              refine xaload_n C 2 rfl dX2_drawTogether_107 ?_
              refine gX2_15 C dX2_drawTogether_108 ?_
              refine xiload C 0 rfl dX2_drawTogether_111 ?_
              refine xa_st C hW 7 (by omega) (by omega) hO2 (klb K k) (by omega) dX2_drawTogether_113 ?_
              have fb113 := (hO2 (klb K k) (by omega)).2
              refine xiconst (v := nI 1) C dX2_drawTogether_114 (by decide) ?_
              refine xisub C dX2_drawTogether_115 ?_
              refine xmax C xml_X2_96 (Nat.le_of_ble_eq_true rfl) (Nat.le_of_ble_eq_true rfl) ⟨Nat.le_of_ble_eq_true rfl, Nat.le_of_ble_eq_true rfl⟩ dX2_drawTogether_116 ?_
              have hv3 : max ((rdL K (rrL K lo i) k) (kla K k)) ((rdL K (rrL K lo i) k) (klb K k) - 1) ≤ 5 := by have := (hO2 (kla K k) (by omega)).2; have := (hO2 (klb K k) (by omega)).2; omega
              refine xtopi (y := nI (max ((rdL K (rrL K lo i) k) (kla K k)) ((rdL K (rrL K lo i) k) (klb K k) - 1))) (nmax (by have := (hO2 (kla K k) (by omega)).2; omega) (by have := (hO2 (klb K k) (by omega)).2; omega)) ?_
              refine xs_st C 7 (by omega) (by omega) (kla K k) (by omega) dX2_drawTogether_119 ?_
              obtain ⟨F3, eF3⟩ : ∃ z : Nat → Nat → Int32, z = va_up F2 7 (upd (F2 7) (kla K k) (nI (max ((rdL K (rrL K lo i) k) (kla K k)) ((rdL K (rrL K lo i) k) (klb K k) - 1)))) := ⟨_, rfl⟩
              refine xworld (ws' := WX a t I F3 L) (by rw [eF3]) ?_
              have hK3 : CFG K I F3 := by rw [eF3]; exact hK2.upF (by omega) (by omega) _
              have hR3 : RA (kn K) (F3 7) (va_up (rdL K (rrL K lo i) k) (kla K k) (max ((rdL K (rrL K lo i) k) (kla K k)) ((rdL K (rrL K lo i) k) (klb K k) - 1))) := by rw [eF3, va_up_self]; exact hO2.up (by omega)
              have hO3 : RA (kn K) (F3 6) (va_up (va_up (rdH K (rrH K hi i) k) (kla K k) (min ((rdH K (rrH K hi i) k) (kla K k)) ((rdH K (rrH K hi i) k) (klb K k) + 1))) (klb K k) (min ((va_up (rdH K (rrH K hi i) k) (kla K k) (min ((rdH K (rrH K hi i) k) (kla K k)) ((rdH K (rrH K hi i) k) (klb K k) + 1))) (klb K k)) ((va_up (rdH K (rrH K hi i) k) (kla K k) (min ((rdH K (rrH K hi i) k) (kla K k)) ((rdH K (rrH K hi i) k) (klb K k) + 1))) (kla K k) + 1))) := by rw [eF3, va_up_ne _ _ (by decide)]; exact hR2
              have hX3 : ∀ q, q ≠ 6 → q ≠ 7 → F3 q = F q := fun q h1 h2 => by rw [eF3, va_up_ne _ _ (by omega)]; exact hX2 q h1 h2
              refine xaload_n C 2 rfl dX2_drawTogether_120 ?_
              refine gX2_15 C dX2_drawTogether_121 ?_
              refine xiload C 0 rfl dX2_drawTogether_124 ?_
              refine xaload_n C 2 rfl dX2_drawTogether_126 ?_
              refine gX2_15 C dX2_drawTogether_127 ?_
              refine xiload C 0 rfl dX2_drawTogether_130 ?_
              refine xa_st C hW 7 (by omega) (by omega) hR3 (klb K k) (by omega) dX2_drawTogether_132 ?_
              have fb132 := (hR3 (klb K k) (by omega)).2
              refine xaload_n C 2 rfl dX2_drawTogether_133 ?_
              refine gX2_15 C dX2_drawTogether_134 ?_
              refine xiload_n C 1 rfl dX2_drawTogether_137 ?_
              refine xa_st C hW 7 (by omega) (by omega) hR3 (kla K k) (by omega) dX2_drawTogether_138 ?_
              have fb138 := (hR3 (kla K k) (by omega)).2
              refine xiconst (v := nI 1) C dX2_drawTogether_139 (by decide) ?_
              refine xisub C dX2_drawTogether_140 ?_
              refine xmax C xml_X2_96 (Nat.le_of_ble_eq_true rfl) (Nat.le_of_ble_eq_true rfl) ⟨Nat.le_of_ble_eq_true rfl, Nat.le_of_ble_eq_true rfl⟩ dX2_drawTogether_141 ?_
              have hv4 : max ((va_up (rdL K (rrL K lo i) k) (kla K k) (max ((rdL K (rrL K lo i) k) (kla K k)) ((rdL K (rrL K lo i) k) (klb K k) - 1))) (klb K k)) ((va_up (rdL K (rrL K lo i) k) (kla K k) (max ((rdL K (rrL K lo i) k) (kla K k)) ((rdL K (rrL K lo i) k) (klb K k) - 1))) (kla K k) - 1) ≤ 5 := by have := (hR3 (klb K k) (by omega)).2; have := (hR3 (kla K k) (by omega)).2; omega
              refine xtopi (y := nI (max ((va_up (rdL K (rrL K lo i) k) (kla K k) (max ((rdL K (rrL K lo i) k) (kla K k)) ((rdL K (rrL K lo i) k) (klb K k) - 1))) (klb K k)) ((va_up (rdL K (rrL K lo i) k) (kla K k) (max ((rdL K (rrL K lo i) k) (kla K k)) ((rdL K (rrL K lo i) k) (klb K k) - 1))) (kla K k) - 1))) (nmax (by have := (hR3 (klb K k) (by omega)).2; omega) (by have := (hR3 (kla K k) (by omega)).2; omega)) ?_
              refine xs_st C 7 (by omega) (by omega) (klb K k) (by omega) dX2_drawTogether_144 ?_
              obtain ⟨F4, eF4⟩ : ∃ z : Nat → Nat → Int32, z = va_up F3 7 (upd (F3 7) (klb K k) (nI (max ((va_up (rdL K (rrL K lo i) k) (kla K k) (max ((rdL K (rrL K lo i) k) (kla K k)) ((rdL K (rrL K lo i) k) (klb K k) - 1))) (klb K k)) ((va_up (rdL K (rrL K lo i) k) (kla K k) (max ((rdL K (rrL K lo i) k) (kla K k)) ((rdL K (rrL K lo i) k) (klb K k) - 1))) (kla K k) - 1)))) := ⟨_, rfl⟩
              refine xworld (ws' := WX a t I F4 L) (by rw [eF4]) ?_
              have hK4 : CFG K I F4 := by rw [eF4]; exact hK3.upF (by omega) (by omega) _
              have hR4 : RA (kn K) (F4 7) (va_up (va_up (rdL K (rrL K lo i) k) (kla K k) (max ((rdL K (rrL K lo i) k) (kla K k)) ((rdL K (rrL K lo i) k) (klb K k) - 1))) (klb K k) (max ((va_up (rdL K (rrL K lo i) k) (kla K k) (max ((rdL K (rrL K lo i) k) (kla K k)) ((rdL K (rrL K lo i) k) (klb K k) - 1))) (klb K k)) ((va_up (rdL K (rrL K lo i) k) (kla K k) (max ((rdL K (rrL K lo i) k) (kla K k)) ((rdL K (rrL K lo i) k) (klb K k) - 1))) (kla K k) - 1))) := by rw [eF4, va_up_self]; exact hR3.up (by omega)
              have hO4 : RA (kn K) (F4 6) (va_up (va_up (rdH K (rrH K hi i) k) (kla K k) (min ((rdH K (rrH K hi i) k) (kla K k)) ((rdH K (rrH K hi i) k) (klb K k) + 1))) (klb K k) (min ((va_up (rdH K (rrH K hi i) k) (kla K k) (min ((rdH K (rrH K hi i) k) (kla K k)) ((rdH K (rrH K hi i) k) (klb K k) + 1))) (klb K k)) ((va_up (rdH K (rrH K hi i) k) (kla K k) (min ((rdH K (rrH K hi i) k) (kla K k)) ((rdH K (rrH K hi i) k) (klb K k) + 1))) (kla K k) + 1))) := by rw [eF4, va_up_ne _ _ (by decide)]; exact hO3
              have hX4 : ∀ q, q ≠ 6 → q ≠ 7 → F4 q = F q := fun q h1 h2 => by rw [eF4, va_up_ne _ _ (by omega)]; exact hX3 q h1 h2
              refine xiincN (lv' := [(2, .int (nI (k + 1))), (4, .int (nI (klb K k))), (3, .int (nI (kla K k))), (0, .ref (a 2)), (1, .int (nI i))]) C 4 rfl dX2_drawTogether_145 (by decide) rfl ?_
              refine xgoto C 15 dX2_drawTogether_148 (by decide) ?_
              refine xsub [3, 4, 0] rfl ?_
              exact ih15 (k + 1) F4 (by omega) hX4 hO4 hR4 (by omega)
        refine xsub [1, 2, 0] rfl ?_
        exact LP15 _ 0 FA (Nat.zero_le _) hXA hHA hLA (Nat.lt_succ_self _)
  refine xsub [1, 0] rfl ?_
  exact LP2 _ 0 F (Nat.zero_le _) (fun q _ _ => rfl) hH hL (Nat.lt_succ_self _)
