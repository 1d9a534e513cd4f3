/-! Net (written by my program parts_x1.py). -/
def hasP (K : Cfg) (x : Int32) : Prop := ¬ x < 0 ∧ x < nI (kn K)
theorem hasP_lt {K : Cfg} {x : Int32} (h : x < 0) : ¬ hasP K x := fun q => q.1 h
theorem hasP_ge {K : Cfg} {x : Int32} (hW : WFK K) (h : nI (kn K) ≤ x) : ¬ hasP K x := fun q => Int32.not_lt.mpr h q.2
theorem hasP_of {K : Cfg} {x : Int32} (hW : WFK K) (h1 : ¬ x < 0) (h2 : ¬ nI (kn K) ≤ x) : hasP K x := ⟨h1, Int32.not_le.mp h2⟩
theorem hasP.nat {K : Cfg} {x : Int32} (hW : WFK K) (h : hasP K x) : ∃ q, q < kn K ∧ x = nI q := by
  have := hW.n24
  obtain ⟨q, h1, rfl⟩ := nI_of h.1
  exact ⟨q, (nI_ltI h1 (by omega)).mp h.2, rfl⟩
def lkdP (K : Cfg) (p q : Nat) : Prop := ∃ i, i < kdg K p ∧ knb K p i = q
def likP (K : Cfg) (f : Nat → Nat) (k : Nat) : Prop := f (kla K k) = f (klb K k)
/-- one more place; one more link -/
def addP (K : Cfg) (x y : Nat) : Cfg := (kn K + 1, km K, kk K, ku K, kv K, va_up (ktop K) (kn K) x, va_up (ksi K) (kn K) y, va_up (khd K) (kn K) 0, kdg K, kla K, klb K, knb K)
def insN (f : Nat → Nat) (q : Nat) : Nat → (Nat → Nat)
  | 0 => va_up f 0 q
  | i + 1 => if q < f i then insN (va_up f (i + 1) (f i)) q i else va_up f (i + 1) q
def addL (K : Cfg) (p q : Nat) : Cfg := (kn K, km K + 1, kk K, ku K, kv K, ktop K, ksi K, khd K, va_up (va_up (kdg K) p (kdg K p + 1)) q (kdg K q + 1), va_up (kla K) (km K) p, va_up (klb K) (km K) q, va_up (va_up (knb K) p (insN (knb K p) q (kdg K p))) q (insN (knb K q) p (kdg K q)))
theorem insN_step {f fc : Nat → Nat} {q i d : Nat} (h : insN fc q i = insN f q d) (hi : 0 < i) (hq : q < fc (i - 1)) : insN (va_up fc i (fc (i - 1))) q (i - 1) = insN f q d := by
  obtain ⟨j, rfl⟩ : ∃ j, i = j + 1 := ⟨i - 1, by omega⟩
  rw [← h]
  show insN _ q j = insN fc q (j + 1)
  rw [show insN fc q (j + 1) = if q < fc j then insN (va_up fc (j + 1) (fc j)) q j else va_up fc (j + 1) q from rfl, if_pos (show q < fc j from hq)]
  rfl
theorem insN_rel {fc : Nat → Nat} {i d p : Nat} {FA F1 : Nat → Nat → Int32} (h : ∀ x, x ≤ d → x ≠ i → FA (13 + p) x = nI (fc x) ∧ fc x < 24) (hi : 0 < i) (hd : i ≤ d) (e : F1 = va_up FA (13 + p) (upd (FA (13 + p)) i (nI (fc (i - 1))))) : ∀ x, x ≤ d → x ≠ i - 1 → F1 (13 + p) x = nI (va_up fc i (fc (i - 1)) x) ∧ va_up fc i (fc (i - 1)) x < 24 := by
  intro x h1 h2
  rw [e, va_up_self]
  by_cases hx : x = i
  · subst hx
    rw [va_up_self]
    exact ⟨by simp [upd], (h (x - 1) (by omega) (by omega)).2⟩
  · rw [va_up_ne _ _ hx]
    exact ⟨by simp only [upd, if_neg hx]; exact (h x h1 hx).1, (h x h1 hx).2⟩
theorem insN_end {f fc : Nat → Nat} {q i d p : Nat} {FA : Nat → Nat → Int32} (hf : insN fc q i = insN f q d) (h : ∀ x, x ≤ d → x ≠ i → FA (13 + p) x = nI (fc x) ∧ fc x < 24) (hc : i = 0 ∨ (0 < i ∧ fc (i - 1) ≤ q)) : ∀ x, x ≤ d → upd (FA (13 + p)) i (nI q) x = nI (insN f q d x) := by
  intro x hx
  have e : insN fc q i = va_up fc i q := by
    rcases hc with rfl | ⟨h1, h2⟩
    · rfl
    · obtain ⟨j, rfl⟩ : ∃ j, i = j + 1 := ⟨i - 1, by omega⟩
      rw [show insN fc q (j + 1) = if q < fc j then insN (va_up fc (j + 1) (fc j)) q j else va_up fc (j + 1) q from rfl, if_neg (show ¬ q < fc j from Nat.not_lt.mpr h2)]
  rw [← hf, e]
  unfold upd va_up
  by_cases e2 : x = i
  · rw [if_pos e2, if_pos e2]
  · rw [if_neg e2, if_neg e2]; exact (h x hx e2).1
theorem CFG.addP {K : Cfg} {I : Nat → Int32} {F : Nat → Nat → Int32} (hK : CFG K I F) (hW : WFK K) (hn : kn K < 24) (x y : Nat) : CFG (addP K x y) (va_up I 0 (nI (kn K + 1))) (va_up (va_up (va_up F 0 (upd (F 0) (kn K) (nI x))) 1 (upd (va_up F 0 (upd (F 0) (kn K) (nI x)) 1) (kn K) (nI y))) 2 (upd (va_up (va_up F 0 (upd (F 0) (kn K) (nI x))) 1 (upd (va_up F 0 (upd (F 0) (kn K) (nI x)) 1) (kn K) (nI y)) 2) (kn K) (-1))) := by
  refine ⟨rfl, hK.m, hK.k, hK.u, hK.v, fun p hp => ?_, fun p hp => hK.dg hp, fun p i hp hi => ?_, fun k hk => ⟨hK.la hk, hK.lb hk⟩⟩
  · by_cases e : p = kn K
    · subst e
      refine ⟨?_, ?_, ?_⟩
      · show upd (F 0) (kn K) (nI x) (kn K) = nI (va_up (ktop K) (kn K) x (kn K)); simp [upd, va_up]
      · show upd (F 1) (kn K) (nI y) (kn K) = nI (va_up (ksi K) (kn K) y (kn K)); simp [upd, va_up]
      · show upd (F 2) (kn K) (-1) (kn K) = nI (va_up (khd K) (kn K) 0 (kn K)) - 1; simp [upd, va_up]; decide +kernel
    · have hp2 : p < kn K := by have : p < kn K + 1 := hp; omega
      refine ⟨?_, ?_, ?_⟩
      · show upd (F 0) (kn K) (nI x) p = nI (va_up (ktop K) (kn K) x p); simp only [upd, va_up, if_neg e]; exact hK.top hp2
      · show upd (F 1) (kn K) (nI y) p = nI (va_up (ksi K) (kn K) y p); simp only [upd, va_up, if_neg e]; exact hK.si hp2
      · show upd (F 2) (kn K) (-1) p = nI (va_up (khd K) (kn K) 0 p) - 1; simp only [upd, va_up, if_neg e]; exact hK.hd hp2
  · have hp1 : p < kn K + 1 := hp
    have hi1 : i < kdg K p := hi
    rw [va_up_ne _ _ (by omega), va_up_ne _ _ (by omega), va_up_ne _ _ (by omega)]
    by_cases e : p = kn K
    · rw [e, hW.dg0 (Nat.le_refl _)] at hi1; omega
    · exact hK.nb (by omega) hi1
theorem CFG.addL {K : Cfg} {I : Nat → Int32} {F FA FB FC : Nat → Nat → Int32} (hK : CFG K I F) (hW : WFK K) (hm : km K < 60) {p q : Nat} (hp : p < kn K) (hq : q < kn K) (hne : p ≠ q) (hdp : kdg K p < 6) (hdq : kdg K q < 6) (hA : ∀ j, j ≠ 4 → j ≠ 5 → FA j = F j) (hA4 : FA 4 = upd (F 4) (km K) (nI p)) (hA5 : FA 5 = upd (F 5) (km K) (nI q))
    (hB1 : ∀ j, j ≠ 13 + p → j ≠ 3 → FB j = FA j) (hB2 : ∀ x, x ≤ kdg K p → FB (13 + p) x = nI (insN (knb K p) q (kdg K p) x)) (hB3 : FB 3 = upd (FA 3) p (nI (kdg K p + 1))) (hC1 : ∀ j, j ≠ 13 + q → j ≠ 3 → FC j = FB j) (hC2 : ∀ x, x ≤ kdg K q → FC (13 + q) x = nI (insN (knb K q) p (kdg K q) x)) (hC3 : FC 3 = upd (FB 3) q (nI (kdg K q + 1))) : CFG (addL K p q) (va_up I 1 (nI (km K + 1))) FC := by
  have hn := hW.n24
  have e0 : ∀ j, j < 3 → FC j = F j := fun j hj => by rw [hC1 j (by omega) (by omega), hB1 j (by omega) (by omega), hA j (by omega) (by omega)]
  refine ⟨hK.n, rfl, hK.k, hK.u, hK.v, fun x hx => ?_, fun x hx => ?_, fun x i hx hi => ?_, fun k hk => ?_⟩
  · rw [e0 0 (by omega), e0 1 (by omega), e0 2 (by omega)]; exact ⟨hK.top hx, hK.si hx, hK.hd hx⟩
  · rw [hC3, hB3, hA 3 (by omega) (by omega)]
    show upd (upd (F 3) p _) q _ x = nI (va_up (va_up (kdg K) p (kdg K p + 1)) q (kdg K q + 1) x)
    unfold upd va_up
    by_cases e1 : x = q
    · rw [if_pos e1, if_pos e1]
    · rw [if_neg e1, if_neg e1]
      by_cases e2 : x = p
      · rw [if_pos e2, if_pos e2]
      · rw [if_neg e2, if_neg e2]; exact hK.dg hx
  · have hx' : x < kn K := hx
    have hi' : i < va_up (va_up (kdg K) p (kdg K p + 1)) q (kdg K q + 1) x := hi
    show FC (13 + x) i = nI (va_up (va_up (knb K) p (insN (knb K p) q (kdg K p))) q (insN (knb K q) p (kdg K q)) x i)
    by_cases e1 : x = q
    · subst e1
      rw [va_up_self] at hi' ⊢
      exact hC2 i (by omega)
    · rw [va_up_ne _ _ e1] at hi' ⊢
      rw [hC1 _ (by omega) (by omega)]
      by_cases e2 : x = p
      · subst e2
        rw [va_up_self] at hi' ⊢
        exact hB2 i (by omega)
      · rw [va_up_ne _ _ e2] at hi' ⊢
        rw [hB1 _ (by omega) (by omega), hA _ (by omega) (by omega)]
        exact hK.nb hx' hi'
  · have hk' : k < km K + 1 := hk
    rw [hC1 4 (by omega) (by omega), hB1 4 (by omega) (by omega), hA4, hC1 5 (by omega) (by omega), hB1 5 (by omega) (by omega), hA5]
    show upd (F 4) (km K) (nI p) k = nI (va_up (kla K) (km K) p k) ∧ upd (F 5) (km K) (nI q) k = nI (va_up (klb K) (km K) q k)
    unfold upd va_up
    by_cases e : k = km K
    · rw [if_pos e, if_pos e, if_pos e, if_pos e]; exact ⟨rfl, rfl⟩
    · rw [if_neg e, if_neg e, if_neg e, if_neg e]; exact ⟨hK.la (by omega), hK.lb (by omega)⟩
theorem dX1_has_0 : decode cX1_has 0 = .ok (.iload_n 1, 1) := by decide +kernel
theorem dX1_has_1 : decode cX1_has 1 = .ok (.ifCond .lt 15, 3) := by decide +kernel
theorem dX1_has_4 : decode cX1_has 4 = .ok (.iload_n 1, 1) := by decide +kernel
theorem dX1_has_5 : decode cX1_has 5 = .ok (.aload_n 0, 1) := by decide +kernel
theorem dX1_has_6 : decode cX1_has 6 = .ok (.getfield 35, 3) := by decide +kernel
theorem dX1_has_9 : decode cX1_has 9 = .ok (.if_icmp .ge 7, 3) := by decide +kernel
theorem dX1_has_12 : decode cX1_has 12 = .ok (.iconst 1, 1) := by decide +kernel
theorem dX1_has_13 : decode cX1_has 13 = .ok (.goto 4, 3) := by decide +kernel
theorem dX1_has_16 : decode cX1_has 16 = .ok (.iconst 0, 1) := by decide +kernel
theorem dX1_has_17 : decode cX1_has 17 = .ok (.ireturn, 1) := by decide +kernel
def rX1_has : Room := { frames := 0, cells := 0, slots := 0, locals := 0 }
theorem yk_X1_has : YK yX1_has cX1_has 2 (some .boolean) 1 := ⟨xim_X1_has, xse_X1_has, xin_X1, xco_X1_has, by decide +kernel⟩
set_option maxRecDepth 4000 in
theorem c_X1_has {l : Launch} {D : va_G} {t : Nat → ClassId} {a : Nat → Nat} {I : Nat → Int32} {F : Nat → Nat → Int32} {L : Nat → Int64} {K : Cfg} (hK : CFG K I F) (hW : WFK K) (x : Int32) : CT l D t yX1_has cX1_has 2 (some .boolean) rX1_has 0 0 [.ref (a 1), .int x] (WX a t I F L) (RP (.int (nI (bn (hasP K x)))) (WX a t I F L)) := by
  refine CT.of (by decide +kernel) (by simp [lg_sl, Value.category]) (fun X C hR => ?_)
  refine xlocals (lv' := [(0, .ref (a 1)), (1, .int x)]) rfl ?_
  have fn24 := hW.n24; have fm60 := hW.m60; have fk2 := hW.k2; have fu1 := hW.u1; have fu9 := hW.u9; have fv1 := hW.v1; have fv9 := hW.v9
  refine xiload_n C 1 rfl dX1_has_0 ?_
  refine xif_lt C 16 dX1_has_1 (by decide) (fun h1 => ?_) (fun h1 => ?_)
  ·
    refine xiconst (v := nI 0) C dX1_has_16 (by decide) ?_
    exact xret C hR (by rfl) dX1_has_17 (RPn ((bn_f (hasP_lt h1)).symm))
  ·
    refine xiload_n C 1 rfl dX1_has_4 ?_
    refine xaload_n C 0 rfl dX1_has_5 ?_
    refine gX1_35K C hK dX1_has_6 ?_
    refine xicmp_ge C 16 dX1_has_9 (by decide) (fun h9 => ?_) (fun h9 => ?_)
    ·
      refine xiconst (v := nI 0) C dX1_has_16 (by decide) ?_
      exact xret C hR (by rfl) dX1_has_17 (RPn ((bn_f (hasP_ge hW h9)).symm))
    ·
      refine xiconst (v := nI 1) C dX1_has_12 (by decide) ?_
      refine xgoto C 17 dX1_has_13 (by decide) ?_
      exact xret C hR (by rfl) dX1_has_17 (RPn ((bn_t (hasP_of hW h1 h9)).symm))
theorem dX1_isCrowded_0 : decode cX1_isCrowded 0 = .ok (.aload_n 0, 1) := by decide +kernel
theorem dX1_isCrowded_1 : decode cX1_isCrowded 1 = .ok (.getfield 21, 3) := by decide +kernel
theorem dX1_isCrowded_4 : decode cX1_isCrowded 4 = .ok (.iload_n 1, 1) := by decide +kernel
theorem dX1_isCrowded_5 : decode cX1_isCrowded 5 = .ok (.iaload, 1) := by decide +kernel
theorem dX1_isCrowded_6 : decode cX1_isCrowded 6 = .ok (.bipush 6, 2) := by decide +kernel
theorem dX1_isCrowded_8 : decode cX1_isCrowded 8 = .ok (.if_icmp .lt 7, 3) := by decide +kernel
theorem dX1_isCrowded_11 : decode cX1_isCrowded 11 = .ok (.iconst 1, 1) := by decide +kernel
theorem dX1_isCrowded_12 : decode cX1_isCrowded 12 = .ok (.goto 4, 3) := by decide +kernel
theorem dX1_isCrowded_15 : decode cX1_isCrowded 15 = .ok (.iconst 0, 1) := by decide +kernel
theorem dX1_isCrowded_16 : decode cX1_isCrowded 16 = .ok (.ireturn, 1) := by decide +kernel
def rX1_isCrowded : Room := { frames := 0, cells := 0, slots := 0, locals := 0 }
theorem yk_X1_isCrowded : YK yX1_isCrowded cX1_isCrowded 2 (some .boolean) 1 := ⟨xim_X1_isCrowded, xse_X1_isCrowded, xin_X1, xco_X1_isCrowded, by decide +kernel⟩
set_option maxRecDepth 4000 in
theorem c_X1_isCrowded {l : Launch} {D : va_G} {t : Nat → ClassId} {a : Nat → Nat} {I : Nat → Int32} {F : Nat → Nat → Int32} {L : Nat → Int64} {K : Cfg} (hK : CFG K I F) (hW : WFK K) (p : Nat) (hp : p < kn K) : CT l D t yX1_isCrowded cX1_isCrowded 2 (some .boolean) rX1_isCrowded 0 0 [.ref (a 1), .int (nI p)] (WX a t I F L) (RP (.int (nI (bn (6 ≤ kdg K p)))) (WX a t I F L)) := by
  refine CT.of (by decide +kernel) (by simp [lg_sl, Value.category]) (fun X C hR => ?_)
  refine xlocals (lv' := [(0, .ref (a 1)), (1, .int (nI p))]) rfl ?_
  have fn24 := hW.n24; have fm60 := hW.m60; have fk2 := hW.k2; have fu1 := hW.u1; have fu9 := hW.u9; have fv1 := hW.v1; have fv9 := hW.v9
  refine xaload_n C 0 rfl dX1_isCrowded_0 ?_
  refine gX1_21 C dX1_isCrowded_1 ?_
  refine xiload_n C 1 rfl dX1_isCrowded_4 ?_
  refine xa_dg C hK hW p (by omega) dX1_isCrowded_5 ?_
  have fb5 := hW.dg6 p
  refine xbipush (v := nI 6) C dX1_isCrowded_6 (by decide) ?_
  refine xicmp_ltN C 15 dX1_isCrowded_8 (by decide) (by omega) (by omega) (fun h8 => ?_) (fun h8 => ?_)
  ·
    refine xiconst (v := nI 0) C dX1_isCrowded_15 (by decide) ?_
    exact xret C hR (by rfl) dX1_isCrowded_16 (RPn ((bn_f (by omega)).symm))
  ·
    refine xiconst (v := nI 1) C dX1_isCrowded_11 (by decide) ?_
    refine xgoto C 16 dX1_isCrowded_12 (by decide) ?_
    exact xret C hR (by rfl) dX1_isCrowded_16 (RPn ((bn_t h8).symm))
theorem dX1_areLinked_0 : decode cX1_areLinked 0 = .ok (.iconst 0, 1) := by decide +kernel
theorem dX1_areLinked_1 : decode cX1_areLinked 1 = .ok (.istore_n 3, 1) := by decide +kernel
theorem dX1_areLinked_2 : decode cX1_areLinked 2 = .ok (.iload_n 3, 1) := by decide +kernel
theorem dX1_areLinked_3 : decode cX1_areLinked 3 = .ok (.aload_n 0, 1) := by decide +kernel
theorem dX1_areLinked_4 : decode cX1_areLinked 4 = .ok (.getfield 21, 3) := by decide +kernel
theorem dX1_areLinked_7 : decode cX1_areLinked 7 = .ok (.iload_n 1, 1) := by decide +kernel
theorem dX1_areLinked_8 : decode cX1_areLinked 8 = .ok (.iaload, 1) := by decide +kernel
theorem dX1_areLinked_9 : decode cX1_areLinked 9 = .ok (.if_icmp .ge 23, 3) := by decide +kernel
theorem dX1_areLinked_12 : decode cX1_areLinked 12 = .ok (.aload_n 0, 1) := by decide +kernel
theorem dX1_areLinked_13 : decode cX1_areLinked 13 = .ok (.getfield 26, 3) := by decide +kernel
theorem dX1_areLinked_16 : decode cX1_areLinked 16 = .ok (.iload_n 1, 1) := by decide +kernel
theorem dX1_areLinked_17 : decode cX1_areLinked 17 = .ok (.aaload, 1) := by decide +kernel
theorem dX1_areLinked_18 : decode cX1_areLinked 18 = .ok (.iload_n 3, 1) := by decide +kernel
theorem dX1_areLinked_19 : decode cX1_areLinked 19 = .ok (.iaload, 1) := by decide +kernel
theorem dX1_areLinked_20 : decode cX1_areLinked 20 = .ok (.iload_n 2, 1) := by decide +kernel
theorem dX1_areLinked_21 : decode cX1_areLinked 21 = .ok (.if_icmp .ne 5, 3) := by decide +kernel
theorem dX1_areLinked_24 : decode cX1_areLinked 24 = .ok (.iconst 1, 1) := by decide +kernel
theorem dX1_areLinked_25 : decode cX1_areLinked 25 = .ok (.ireturn, 1) := by decide +kernel
theorem dX1_areLinked_26 : decode cX1_areLinked 26 = .ok (.iinc 3 1, 3) := by decide +kernel
theorem dX1_areLinked_29 : decode cX1_areLinked 29 = .ok (.goto (-27), 3) := by decide +kernel
theorem dX1_areLinked_32 : decode cX1_areLinked 32 = .ok (.iconst 0, 1) := by decide +kernel
theorem dX1_areLinked_33 : decode cX1_areLinked 33 = .ok (.ireturn, 1) := by decide +kernel
def rX1_areLinked : Room := { frames := 0, cells := 0, slots := 0, locals := 0 }
theorem yk_X1_areLinked : YK yX1_areLinked cX1_areLinked 4 (some .boolean) 2 := ⟨xim_X1_areLinked, xse_X1_areLinked, xin_X1, xco_X1_areLinked, by decide +kernel⟩
set_option maxRecDepth 4000 in
theorem c_X1_areLinked {l : Launch} {D : va_G} {t : Nat → ClassId} {a : Nat → Nat} {I : Nat → Int32} {F : Nat → Nat → Int32} {L : Nat → Int64} {K : Cfg} (hK : CFG K I F) (hW : WFK K) (p : Nat) (hp : p < kn K) (q : Nat) (hq : q < kn K) : CT l D t yX1_areLinked cX1_areLinked 4 (some .boolean) rX1_areLinked 0 0 [.ref (a 1), .int (nI p), .int (nI q)] (WX a t I F L) (RP (.int (nI (bn (lkdP K p q)))) (WX a t I F L)) := by
  refine CT.of (by decide +kernel) (by simp [lg_sl, Value.category]) (fun X C hR => ?_)
  refine xlocals (lv' := [(0, .ref (a 1)), (1, .int (nI p)), (2, .int (nI q))]) rfl ?_
  have fn24 := hW.n24; have fm60 := hW.m60; have fk2 := hW.k2; have fu1 := hW.u1; have fu9 := hW.u9; have fv1 := hW.v1; have fv9 := hW.v9
  refine xiconst (v := nI 0) C dX1_areLinked_0 (by decide) ?_
  refine xistore_n (lv' := [(3, .int (nI 0)), (0, .ref (a 1)), (1, .int (nI p)), (2, .int (nI q))]) C dX1_areLinked_1 (by decide) rfl ?_
  have LP2 : ∀ (fu2 : Nat) (i : Nat) (hi : i ≤ kdg K p) (ha : ∀ x, x < i → ¬ knb K p x = q), kdg K p - i < fu2 → XW X 0 0 (WX a t I F L) [(0, .ref (a 1)), (1, .int (nI p)), (2, .int (nI q)), (3, .int (nI i))] 2 [] := by
    intro fu2
    induction fu2 with
    | zero => intro i hi ha hm2; exact absurd hm2 (Nat.not_lt_zero _)
    | succ fu2 ih2 =>
      intro i hi ha hm2
      refine xiload_n C 3 rfl dX1_areLinked_2 ?_
      refine xaload_n C 0 rfl dX1_areLinked_3 ?_
      refine gX1_21 C dX1_areLinked_4 ?_
      refine xiload_n C 1 rfl dX1_areLinked_7 ?_
      refine xa_dg C hK hW p (by omega) dX1_areLinked_8 ?_
      have fb8 := hW.dg6 p
      refine xicmp_geN C 32 dX1_areLinked_9 (by decide) (by omega) (by omega) (fun h9 => ?_) (fun h9 => ?_)
      ·
        refine xiconst (v := nI 0) C dX1_areLinked_32 (by decide) ?_
        exact xret C hR (by rfl) dX1_areLinked_33 (RPn ((bn_f (fun ⟨x, h1, h2⟩ => ha x (by omega) h2)).symm))
      ·
        refine xaload_n C 0 rfl dX1_areLinked_12 ?_
        refine gX1_26 C dX1_areLinked_13 ?_
        refine xiload_n C 1 rfl dX1_areLinked_16 ?_
        refine xa_out C p (by omega) dX1_areLinked_17 ?_
        refine xiload_n C 3 rfl dX1_areLinked_18 ?_
        refine xa_nb C hK hW p i (by omega) (by omega) dX1_areLinked_19 ?_
        have fb19 := hW.nb (show p < kn K by omega) (show i < kdg K p by omega)
        refine xiload_n C 2 rfl dX1_areLinked_20 ?_
        refine xicmp_neN C 26 dX1_areLinked_21 (by decide) (by omega) (by omega) (fun h21 => ?_) (fun h21 => ?_)
        ·
          refine xiincN (lv' := [(3, .int (nI (i + 1))), (0, .ref (a 1)), (1, .int (nI p)), (2, .int (nI q))]) C 3 rfl dX1_areLinked_26 (by decide) rfl ?_
          refine xgoto C 2 dX1_areLinked_29 (by decide) ?_
          refine xsub [1, 2, 3, 0] rfl ?_
          exact ih2 (i + 1) (by omega) (lt_s ha h21) (by omega)
        ·
          refine xiconst (v := nI 1) C dX1_areLinked_24 (by decide) ?_
          exact xret C hR (by rfl) dX1_areLinked_25 (RPn ((bn_t ⟨i, by omega, h21⟩).symm))
  refine xsub [1, 2, 3, 0] rfl ?_
  exact LP2 _ 0 (Nat.zero_le _) (fun p h => absurd h (Nat.not_lt_zero _)) (Nat.lt_succ_self _)
theorem dX1_likeLinks_0 : decode cX1_likeLinks 0 = .ok (.iconst 0, 1) := by decide +kernel
theorem dX1_likeLinks_1 : decode cX1_likeLinks 1 = .ok (.istore_n 2, 1) := by decide +kernel
theorem dX1_likeLinks_2 : decode cX1_likeLinks 2 = .ok (.iconst 0, 1) := by decide +kernel
theorem dX1_likeLinks_3 : decode cX1_likeLinks 3 = .ok (.istore_n 3, 1) := by decide +kernel
theorem dX1_likeLinks_4 : decode cX1_likeLinks 4 = .ok (.iload_n 3, 1) := by decide +kernel
theorem dX1_likeLinks_5 : decode cX1_likeLinks 5 = .ok (.aload_n 0, 1) := by decide +kernel
theorem dX1_likeLinks_6 : decode cX1_likeLinks 6 = .ok (.getfield 39, 3) := by decide +kernel
theorem dX1_likeLinks_9 : decode cX1_likeLinks 9 = .ok (.if_icmp .ge 31, 3) := by decide +kernel
theorem dX1_likeLinks_12 : decode cX1_likeLinks 12 = .ok (.aload_n 1, 1) := by decide +kernel
theorem dX1_likeLinks_13 : decode cX1_likeLinks 13 = .ok (.aload_n 0, 1) := by decide +kernel
theorem dX1_likeLinks_14 : decode cX1_likeLinks 14 = .ok (.getfield 29, 3) := by decide +kernel
theorem dX1_likeLinks_17 : decode cX1_likeLinks 17 = .ok (.iload_n 3, 1) := by decide +kernel
theorem dX1_likeLinks_18 : decode cX1_likeLinks 18 = .ok (.iaload, 1) := by decide +kernel
theorem dX1_likeLinks_19 : decode cX1_likeLinks 19 = .ok (.iaload, 1) := by decide +kernel
theorem dX1_likeLinks_20 : decode cX1_likeLinks 20 = .ok (.aload_n 1, 1) := by decide +kernel
theorem dX1_likeLinks_21 : decode cX1_likeLinks 21 = .ok (.aload_n 0, 1) := by decide +kernel
theorem dX1_likeLinks_22 : decode cX1_likeLinks 22 = .ok (.getfield 32, 3) := by decide +kernel
theorem dX1_likeLinks_25 : decode cX1_likeLinks 25 = .ok (.iload_n 3, 1) := by decide +kernel
theorem dX1_likeLinks_26 : decode cX1_likeLinks 26 = .ok (.iaload, 1) := by decide +kernel
theorem dX1_likeLinks_27 : decode cX1_likeLinks 27 = .ok (.iaload, 1) := by decide +kernel
theorem dX1_likeLinks_28 : decode cX1_likeLinks 28 = .ok (.if_icmp .ne 6, 3) := by decide +kernel
theorem dX1_likeLinks_31 : decode cX1_likeLinks 31 = .ok (.iinc 2 1, 3) := by decide +kernel
theorem dX1_likeLinks_34 : decode cX1_likeLinks 34 = .ok (.iinc 3 1, 3) := by decide +kernel
theorem dX1_likeLinks_37 : decode cX1_likeLinks 37 = .ok (.goto (-33), 3) := by decide +kernel
theorem dX1_likeLinks_40 : decode cX1_likeLinks 40 = .ok (.iload_n 2, 1) := by decide +kernel
theorem dX1_likeLinks_41 : decode cX1_likeLinks 41 = .ok (.ireturn, 1) := by decide +kernel
def rX1_likeLinks : Room := { frames := 0, cells := 0, slots := 0, locals := 0 }
theorem yk_X1_likeLinks : YK yX1_likeLinks cX1_likeLinks 4 (some .int) 1 := ⟨xim_X1_likeLinks, xse_X1_likeLinks, xin_X1, xco_X1_likeLinks, by decide +kernel⟩
set_option maxRecDepth 4000 in
theorem c_X1_likeLinks {l : Launch} {D : va_G} {t : Nat → ClassId} {a : Nat → Nat} {I : Nat → Int32} {F : Nat → Nat → Int32} {L : Nat → Int64} {K : Cfg} (hK : CFG K I F) (hW : WFK K) (j : Nat) (h6 : 6 ≤ j) (hj : j < 13) {f : Nat → Nat} (hS : RA (kn K) (F j) f) : CT l D t yX1_likeLinks cX1_likeLinks 4 (some .int) rX1_likeLinks 0 0 [.ref (a 1), .ref (a (8 + j))] (WX a t I F L) (RP (.int (nI (cn (likP K f) (km K)))) (WX a t I F L)) := by
  refine CT.of (by decide +kernel) (by simp [lg_sl, Value.category]) (fun X C hR => ?_)
  refine xlocals (lv' := [(0, .ref (a 1)), (1, .ref (a (8 + j)))]) rfl ?_
  have fn24 := hW.n24; have fm60 := hW.m60; have fk2 := hW.k2; have fu1 := hW.u1; have fu9 := hW.u9; have fv1 := hW.v1; have fv9 := hW.v9
  refine xiconst (v := nI 0) C dX1_likeLinks_0 (by decide) ?_
  refine xistore_n (lv' := [(2, .int (nI 0)), (0, .ref (a 1)), (1, .ref (a (8 + j)))]) C dX1_likeLinks_1 (by decide) rfl ?_
  refine xiconst (v := nI 0) C dX1_likeLinks_2 (by decide) ?_
  refine xistore_n (lv' := [(3, .int (nI 0)), (2, .int (nI 0)), (0, .ref (a 1)), (1, .ref (a (8 + j)))]) C dX1_likeLinks_3 (by decide) rfl ?_
  have LP4 : ∀ (fu4 : Nat) (k : Nat) (hk : k ≤ km K), km K - k < fu4 → XW X 0 0 (WX a t I F L) [(0, .ref (a 1)), (1, .ref (a (8 + j))), (2, .int (nI (cn (likP K f) k))), (3, .int (nI k))] 4 [] := by
    intro fu4
    induction fu4 with
    | zero => intro k hk hm4; exact absurd hm4 (Nat.not_lt_zero _)
    | succ fu4 ih4 =>
      intro k hk hm4
      refine xiload_n C 3 rfl dX1_likeLinks_4 ?_
      refine xaload_n C 0 rfl dX1_likeLinks_5 ?_
      refine gX1_39K C hK dX1_likeLinks_6 ?_
      refine xicmp_geN C 40 dX1_likeLinks_9 (by decide) (by omega) (by omega) (fun h9 => ?_) (fun h9 => ?_)
      ·
        refine xiload_n C 2 rfl dX1_likeLinks_40 ?_
        exact xret C hR (rfl) dX1_likeLinks_41 (RPn (by (have e : k = km K := (by omega)); subst e; rfl))
      ·
        refine xaload_n C 1 rfl dX1_likeLinks_12 ?_
        refine xaload_n C 0 rfl dX1_likeLinks_13 ?_
        refine gX1_29 C dX1_likeLinks_14 ?_
        refine xiload_n C 3 rfl dX1_likeLinks_17 ?_
        refine xa_la C hK hW k (by omega) dX1_likeLinks_18 ?_
        have fb18 := (hW.la (by omega))
        refine xa_st C hW j h6 hj hS (kla K k) (by omega) dX1_likeLinks_19 ?_
        have fb19 := (hS (kla K k) (by omega)).2
        refine xaload_n C 1 rfl dX1_likeLinks_20 ?_
        refine xaload_n C 0 rfl dX1_likeLinks_21 ?_
        refine gX1_32 C dX1_likeLinks_22 ?_
        refine xiload_n C 3 rfl dX1_likeLinks_25 ?_
        refine xa_lb C hK hW k (by omega) dX1_likeLinks_26 ?_
        have fb26 := (hW.lb (by omega))
        refine xa_st C hW j h6 hj hS (klb K k) (by omega) dX1_likeLinks_27 ?_
        have fb27 := (hS (klb K k) (by omega)).2
        refine xicmp_neN C 34 dX1_likeLinks_28 (by decide) (by omega) (by omega) (fun h28 => ?_) (fun h28 => ?_)
        ·
          refine xlocals (lv' := [(0, .ref (a 1)), (1, .ref (a (8 + j))), (2, .int (nI (cn (likP K f) (k + 1)))), (3, .int (nI k))]) (by rw [show cn (likP K f) (k + 1) = cn (likP K f) k + bn (likP K f k) from rfl, bn_f (P := likP K f k) h28, Nat.add_zero]) ?_
          refine xiincN (lv' := [(3, .int (nI (k + 1))), (0, .ref (a 1)), (1, .ref (a (8 + j))), (2, .int (nI (cn (likP K f) (k + 1))))]) C 3 rfl dX1_likeLinks_34 (by decide) rfl ?_
          refine xgoto C 4 dX1_likeLinks_37 (by decide) ?_
          refine xsub [1, 2, 3, 0] rfl ?_
          exact ih4 (k + 1) (by omega) (by omega)
        ·
          refine xiincN (lv' := [(2, .int (nI (cn (likP K f) k + 1))), (0, .ref (a 1)), (1, .ref (a (8 + j))), (3, .int (nI k))]) C 2 rfl dX1_likeLinks_31 (by decide) rfl ?_
          refine xlocals (lv' := [(2, .int (nI (cn (likP K f) (k + 1)))), (0, .ref (a 1)), (1, .ref (a (8 + j))), (3, .int (nI k))]) (by rw [show cn (likP K f) (k + 1) = cn (likP K f) k + bn (likP K f k) from rfl, bn_t (P := likP K f k) h28]) ?_
          refine xiincN (lv' := [(3, .int (nI (k + 1))), (2, .int (nI (cn (likP K f) (k + 1)))), (0, .ref (a 1)), (1, .ref (a (8 + j)))]) C 3 rfl dX1_likeLinks_34 (by decide) rfl ?_
          refine xgoto C 4 dX1_likeLinks_37 (by decide) ?_
          refine xsub [2, 3, 1, 0] rfl ?_
          exact ih4 (k + 1) (by omega) (by omega)
  refine xsub [2, 3, 1, 0] rfl ?_
  exact LP4 _ 0 (Nat.zero_le _) (Nat.lt_succ_self _)
theorem dX1_addPlace_0 : decode cX1_addPlace 0 = .ok (.aload_n 0, 1) := by decide +kernel
theorem dX1_addPlace_1 : decode cX1_addPlace 1 = .ok (.getfield 9, 3) := by decide +kernel
theorem dX1_addPlace_4 : decode cX1_addPlace 4 = .ok (.aload_n 0, 1) := by decide +kernel
theorem dX1_addPlace_5 : decode cX1_addPlace 5 = .ok (.getfield 35, 3) := by decide +kernel
theorem dX1_addPlace_8 : decode cX1_addPlace 8 = .ok (.iload_n 1, 1) := by decide +kernel
theorem dX1_addPlace_9 : decode cX1_addPlace 9 = .ok (.iastore, 1) := by decide +kernel
theorem dX1_addPlace_10 : decode cX1_addPlace 10 = .ok (.aload_n 0, 1) := by decide +kernel
theorem dX1_addPlace_11 : decode cX1_addPlace 11 = .ok (.getfield 15, 3) := by decide +kernel
theorem dX1_addPlace_14 : decode cX1_addPlace 14 = .ok (.aload_n 0, 1) := by decide +kernel
theorem dX1_addPlace_15 : decode cX1_addPlace 15 = .ok (.getfield 35, 3) := by decide +kernel
theorem dX1_addPlace_18 : decode cX1_addPlace 18 = .ok (.iload_n 2, 1) := by decide +kernel
theorem dX1_addPlace_19 : decode cX1_addPlace 19 = .ok (.iastore, 1) := by decide +kernel
theorem dX1_addPlace_20 : decode cX1_addPlace 20 = .ok (.aload_n 0, 1) := by decide +kernel
theorem dX1_addPlace_21 : decode cX1_addPlace 21 = .ok (.getfield 18, 3) := by decide +kernel
theorem dX1_addPlace_24 : decode cX1_addPlace 24 = .ok (.aload_n 0, 1) := by decide +kernel
theorem dX1_addPlace_25 : decode cX1_addPlace 25 = .ok (.getfield 35, 3) := by decide +kernel
theorem dX1_addPlace_28 : decode cX1_addPlace 28 = .ok (.iconst (-1), 1) := by decide +kernel
theorem dX1_addPlace_29 : decode cX1_addPlace 29 = .ok (.iastore, 1) := by decide +kernel
theorem dX1_addPlace_30 : decode cX1_addPlace 30 = .ok (.aload_n 0, 1) := by decide +kernel
theorem dX1_addPlace_31 : decode cX1_addPlace 31 = .ok (.dup, 1) := by decide +kernel
theorem dX1_addPlace_32 : decode cX1_addPlace 32 = .ok (.getfield 35, 3) := by decide +kernel
theorem dX1_addPlace_35 : decode cX1_addPlace 35 = .ok (.iconst 1, 1) := by decide +kernel
theorem dX1_addPlace_36 : decode cX1_addPlace 36 = .ok (.iadd, 1) := by decide +kernel
theorem dX1_addPlace_37 : decode cX1_addPlace 37 = .ok (.putfield 35, 3) := by decide +kernel
theorem dX1_addPlace_40 : decode cX1_addPlace 40 = .ok (.aload_n 0, 1) := by decide +kernel
theorem dX1_addPlace_41 : decode cX1_addPlace 41 = .ok (.getfield 35, 3) := by decide +kernel
theorem dX1_addPlace_44 : decode cX1_addPlace 44 = .ok (.iconst 1, 1) := by decide +kernel
theorem dX1_addPlace_45 : decode cX1_addPlace 45 = .ok (.isub, 1) := by decide +kernel
theorem dX1_addPlace_46 : decode cX1_addPlace 46 = .ok (.ireturn, 1) := by decide +kernel
def rX1_addPlace : Room := { frames := 0, cells := 0, slots := 0, locals := 0 }
theorem yk_X1_addPlace : YK yX1_addPlace cX1_addPlace 3 (some .int) 2 := ⟨xim_X1_addPlace, xse_X1_addPlace, xin_X1, xco_X1_addPlace, by decide +kernel⟩
set_option maxRecDepth 4000 in
theorem c_X1_addPlace {l : Launch} {D : va_G} {t : Nat → ClassId} {a : Nat → Nat} {I : Nat → Int32} {F : Nat → Nat → Int32} {L : Nat → Int64} {K : Cfg} (hK : CFG K I F) (hW : WFK K) (hn : kn K < 24) (x y : Nat) (hx : x ≤ 5) (hy : y ≤ 1) : CT l D t yX1_addPlace cX1_addPlace 3 (some .int) rX1_addPlace 0 0 [.ref (a 1), .int (nI x), .int (nI y)] (WX a t I F L) (EP (fun v w => v = .int (nI (kn K)) ∧ ∃ (I' : Nat → Int32) (F' : Nat → Nat → Int32), w = WX a t I' F' L ∧ CFG (addP K x y) I' F' ∧ (∀ j, 6 ≤ j → j < 13 → F' j = F j) ∧ (∀ k, 5 ≤ k → I' k = I k))) := by
  refine CT.of (by decide +kernel) (by simp [lg_sl, Value.category]) (fun X C hR => ?_)
  refine xlocals (lv' := [(0, .ref (a 1)), (1, .int (nI x)), (2, .int (nI y))]) rfl ?_
  have fn24 := hW.n24; have fm60 := hW.m60; have fk2 := hW.k2; have fu1 := hW.u1; have fu9 := hW.u9; have fv1 := hW.v1; have fv9 := hW.v9
  refine xaload_n C 0 rfl dX1_addPlace_0 ?_
  refine gX1_9 C dX1_addPlace_1 ?_
  refine xaload_n C 0 rfl dX1_addPlace_4 ?_
  refine gX1_35 C dX1_addPlace_5 ?_
  refine xtopi (y := nI (kn K)) (hK.n) ?_
  refine xiload_n C 1 rfl dX1_addPlace_8 ?_
  refine xs_raw C 0 (by omega) (kn K) (show _ < 24 by omega) dX1_addPlace_9 ?_
  refine xaload_n C 0 rfl dX1_addPlace_10 ?_
  refine gX1_15 C dX1_addPlace_11 ?_
  refine xaload_n C 0 rfl dX1_addPlace_14 ?_
  refine gX1_35 C dX1_addPlace_15 ?_
  refine xtopi (y := nI (kn K)) (hK.n) ?_
  refine xiload_n C 2 rfl dX1_addPlace_18 ?_
  refine xs_raw C 1 (by omega) (kn K) (show _ < 24 by omega) dX1_addPlace_19 ?_
  refine xaload_n C 0 rfl dX1_addPlace_20 ?_
  refine gX1_18 C dX1_addPlace_21 ?_
  refine xaload_n C 0 rfl dX1_addPlace_24 ?_
  refine gX1_35 C dX1_addPlace_25 ?_
  refine xtopi (y := nI (kn K)) (hK.n) ?_
  refine xiconst (v := -1) C dX1_addPlace_28 (by decide) ?_
  refine xs_raw C 2 (by omega) (kn K) (show _ < 24 by omega) dX1_addPlace_29 ?_
  refine xaload_n C 0 rfl dX1_addPlace_30 ?_
  refine xdup C dX1_addPlace_31 rfl ?_
  refine gX1_35 C dX1_addPlace_32 ?_
  refine xtopi (y := nI (kn K)) (hK.n) ?_
  refine xiconst (v := nI 1) C dX1_addPlace_35 (by decide) ?_
  refine xiaddN C dX1_addPlace_36 ?_
  refine pX1_35 C dX1_addPlace_37 ?_
  refine xaload_n C 0 rfl dX1_addPlace_40 ?_
  refine gX1_35 C dX1_addPlace_41 ?_
  refine xtopi (y := nI (kn K + 1)) (va_up_self _ _ _) ?_
  refine xiconst (v := nI 1) C dX1_addPlace_44 (by decide) ?_
  refine xisubN C (by omega) dX1_addPlace_45 ?_
  exact xret C hR (rfl) dX1_addPlace_46 (⟨_, rfl, by rw [show kn K + 1 - 1 = kn K by omega], _, _, rfl, CFG.addP hK hW hn x y, fun j h1 h2 => by rw [va_up_ne _ _ (by omega), va_up_ne _ _ (by omega), va_up_ne _ _ (by omega)], fun k hk => va_up_ne _ _ (by omega)⟩)
theorem dX1_addNeighbour_0 : decode cX1_addNeighbour 0 = .ok (.aload_n 0, 1) := by decide +kernel
theorem dX1_addNeighbour_1 : decode cX1_addNeighbour 1 = .ok (.getfield 26, 3) := by decide +kernel
theorem dX1_addNeighbour_4 : decode cX1_addNeighbour 4 = .ok (.iload_n 1, 1) := by decide +kernel
theorem dX1_addNeighbour_5 : decode cX1_addNeighbour 5 = .ok (.aaload, 1) := by decide +kernel
theorem dX1_addNeighbour_6 : decode cX1_addNeighbour 6 = .ok (.astore_n 3, 1) := by decide +kernel
theorem dX1_addNeighbour_7 : decode cX1_addNeighbour 7 = .ok (.aload_n 0, 1) := by decide +kernel
theorem dX1_addNeighbour_8 : decode cX1_addNeighbour 8 = .ok (.getfield 21, 3) := by decide +kernel
theorem dX1_addNeighbour_11 : decode cX1_addNeighbour 11 = .ok (.iload_n 1, 1) := by decide +kernel
theorem dX1_addNeighbour_12 : decode cX1_addNeighbour 12 = .ok (.iaload, 1) := by decide +kernel
theorem dX1_addNeighbour_13 : decode cX1_addNeighbour 13 = .ok (.istore 4, 2) := by decide +kernel
theorem dX1_addNeighbour_15 : decode cX1_addNeighbour 15 = .ok (.iload 4, 2) := by decide +kernel
theorem dX1_addNeighbour_17 : decode cX1_addNeighbour 17 = .ok (.ifCond .le 29, 3) := by decide +kernel
theorem dX1_addNeighbour_20 : decode cX1_addNeighbour 20 = .ok (.aload_n 3, 1) := by decide +kernel
theorem dX1_addNeighbour_21 : decode cX1_addNeighbour 21 = .ok (.iload 4, 2) := by decide +kernel
theorem dX1_addNeighbour_23 : decode cX1_addNeighbour 23 = .ok (.iconst 1, 1) := by decide +kernel
theorem dX1_addNeighbour_24 : decode cX1_addNeighbour 24 = .ok (.isub, 1) := by decide +kernel
theorem dX1_addNeighbour_25 : decode cX1_addNeighbour 25 = .ok (.iaload, 1) := by decide +kernel
theorem dX1_addNeighbour_26 : decode cX1_addNeighbour 26 = .ok (.iload_n 2, 1) := by decide +kernel
theorem dX1_addNeighbour_27 : decode cX1_addNeighbour 27 = .ok (.if_icmp .le 19, 3) := by decide +kernel
theorem dX1_addNeighbour_30 : decode cX1_addNeighbour 30 = .ok (.aload_n 3, 1) := by decide +kernel
theorem dX1_addNeighbour_31 : decode cX1_addNeighbour 31 = .ok (.iload 4, 2) := by decide +kernel
theorem dX1_addNeighbour_33 : decode cX1_addNeighbour 33 = .ok (.aload_n 3, 1) := by decide +kernel
theorem dX1_addNeighbour_34 : decode cX1_addNeighbour 34 = .ok (.iload 4, 2) := by decide +kernel
theorem dX1_addNeighbour_36 : decode cX1_addNeighbour 36 = .ok (.iconst 1, 1) := by decide +kernel
theorem dX1_addNeighbour_37 : decode cX1_addNeighbour 37 = .ok (.isub, 1) := by decide +kernel
theorem dX1_addNeighbour_38 : decode cX1_addNeighbour 38 = .ok (.iaload, 1) := by decide +kernel
theorem dX1_addNeighbour_39 : decode cX1_addNeighbour 39 = .ok (.iastore, 1) := by decide +kernel
theorem dX1_addNeighbour_40 : decode cX1_addNeighbour 40 = .ok (.iinc 4 (-1), 3) := by decide +kernel
theorem dX1_addNeighbour_43 : decode cX1_addNeighbour 43 = .ok (.goto (-28), 3) := by decide +kernel
theorem dX1_addNeighbour_46 : decode cX1_addNeighbour 46 = .ok (.aload_n 3, 1) := by decide +kernel
theorem dX1_addNeighbour_47 : decode cX1_addNeighbour 47 = .ok (.iload 4, 2) := by decide +kernel
theorem dX1_addNeighbour_49 : decode cX1_addNeighbour 49 = .ok (.iload_n 2, 1) := by decide +kernel
theorem dX1_addNeighbour_50 : decode cX1_addNeighbour 50 = .ok (.iastore, 1) := by decide +kernel
theorem dX1_addNeighbour_51 : decode cX1_addNeighbour 51 = .ok (.aload_n 0, 1) := by decide +kernel
theorem dX1_addNeighbour_52 : decode cX1_addNeighbour 52 = .ok (.getfield 21, 3) := by decide +kernel
theorem dX1_addNeighbour_55 : decode cX1_addNeighbour 55 = .ok (.iload_n 1, 1) := by decide +kernel
theorem dX1_addNeighbour_56 : decode cX1_addNeighbour 56 = .ok (.dup2, 1) := by decide +kernel
theorem dX1_addNeighbour_57 : decode cX1_addNeighbour 57 = .ok (.iaload, 1) := by decide +kernel
theorem dX1_addNeighbour_58 : decode cX1_addNeighbour 58 = .ok (.iconst 1, 1) := by decide +kernel
theorem dX1_addNeighbour_59 : decode cX1_addNeighbour 59 = .ok (.iadd, 1) := by decide +kernel
theorem dX1_addNeighbour_60 : decode cX1_addNeighbour 60 = .ok (.iastore, 1) := by decide +kernel
theorem dX1_addNeighbour_61 : decode cX1_addNeighbour 61 = .ok (.return_, 1) := by decide +kernel
def rX1_addNeighbour : Room := { frames := 0, cells := 0, slots := 0, locals := 0 }
theorem yk_X1_addNeighbour : YK yX1_addNeighbour cX1_addNeighbour 5 none 2 := ⟨xim_X1_addNeighbour, xse_X1_addNeighbour, xin_X1, xco_X1_addNeighbour, by decide +kernel⟩
set_option maxRecDepth 4000 in
theorem c_X1_addNeighbour {l : Launch} {D : va_G} {t : Nat → ClassId} {a : Nat → Nat} {I : Nat → Int32} {F : Nat → Nat → Int32} {L : Nat → Int64} (p : Nat) (hp : p < 24) (q : Nat) (hq : q < 24) (d : Nat) (hd : d < 6) (f : Nat → Nat) (h3 : F 3 p = nI d) (hf : ∀ x, x < d → F (13 + p) x = nI (f x) ∧ f x < 24) : CT l D t yX1_addNeighbour cX1_addNeighbour 5 none rX1_addNeighbour 0 0 [.ref (a 1), .int (nI p), .int (nI q)] (WX a t I F L) (VP (fun w => ∃ F' : Nat → Nat → Int32, w = WX a t I F' L ∧ (∀ j, j ≠ 13 + p → j ≠ 3 → F' j = F j) ∧ (∀ x, x ≤ d → F' (13 + p) x = nI (insN f q d x)) ∧ F' 3 = upd (F 3) p (nI (d + 1)))) := by
  refine CT.of (by decide +kernel) (by simp [lg_sl, Value.category]) (fun X C hR => ?_)
  refine xlocals (lv' := [(0, .ref (a 1)), (1, .int (nI p)), (2, .int (nI q))]) rfl ?_
  refine xaload_n C 0 rfl dX1_addNeighbour_0 ?_
  refine gX1_26 C dX1_addNeighbour_1 ?_
  refine xiload_n C 1 rfl dX1_addNeighbour_4 ?_
  refine xa_out C p (by omega) dX1_addNeighbour_5 ?_
  refine xastore_n (lv' := [(3, .ref (a (8 + (13 + p)))), (0, .ref (a 1)), (1, .int (nI p)), (2, .int (nI q))]) C dX1_addNeighbour_6 (by decide) rfl ?_
  refine xaload_n C 1 rfl dX1_addNeighbour_7 ?_
  refine gX1_21 C dX1_addNeighbour_8 ?_
  refine xiload_n C 2 rfl dX1_addNeighbour_11 ?_
  refine xa_raw C 3 (by omega) p (show _ < 24 by omega) dX1_addNeighbour_12 ?_
  refine xtopi (y := nI d) h3 ?_
  refine xistore (lv' := [(4, .int (nI d)), (3, .ref (a (8 + (13 + p)))), (0, .ref (a 1)), (1, .int (nI p)), (2, .int (nI q))]) C dX1_addNeighbour_13 (by decide) rfl ?_
  have LP15 : ∀ (fu15 : Nat) (i : Nat) (fc : Nat → Nat) (FA : Nat → Nat → Int32) (hi : i ≤ d) (hfin : insN fc q i = insN f q d) (hrel : ∀ x, x ≤ d → x ≠ i → FA (13 + p) x = nI (fc x) ∧ fc x < 24) (hXA : ∀ j, j ≠ 13 + p → FA j = F j), i < fu15 → XW X 0 0 (WX a t I FA L) [(0, .ref (a 1)), (1, .int (nI p)), (2, .int (nI q)), (3, .ref (a (8 + (13 + p)))), (4, .int (nI i))] 15 [] := by
    intro fu15
    induction fu15 with
    | zero => intro i fc FA hi hfin hrel hXA hm15; exact absurd hm15 (Nat.not_lt_zero _)
    | succ fu15 ih15 =>
      intro i fc FA hi hfin hrel hXA hm15
      refine xiload C 4 rfl dX1_addNeighbour_15 ?_
      refine xif_leN C 46 dX1_addNeighbour_17 (by decide) (by omega) (fun h17 => ?_) (fun h17 => ?_)
      ·
        refine xaload_n C 3 rfl dX1_addNeighbour_46 ?_
        refine xiload C 4 rfl dX1_addNeighbour_47 ?_
        refine xiload_n C 2 rfl dX1_addNeighbour_49 ?_
        refine xs_raw C (13 + p) (by omega) i (by unfold xlenN; rw [if_neg (by omega), if_neg (by omega), if_pos (by omega)]; omega) dX1_addNeighbour_50 ?_
        obtain ⟨F2, eF2⟩ : ∃ z : Nat → Nat → Int32, z = va_up FA (13 + p) (upd (FA (13 + p)) i (nI q)) := ⟨_, rfl⟩
        refine xworld (ws' := WX a t I F2 L) (by rw [eF2]) ?_
        have h3b : F2 3 p = nI d := by rw [eF2, va_up_ne _ _ (by omega), hXA 3 (by omega)]; exact h3
        refine xaload_n C 0 rfl dX1_addNeighbour_51 ?_
        refine gX1_21 C dX1_addNeighbour_52 ?_
        refine xiload_n C 1 rfl dX1_addNeighbour_55 ?_
        refine xdup2 C dX1_addNeighbour_56 rfl rfl ?_
        refine xa_raw C 3 (by omega) p (show _ < 24 by omega) dX1_addNeighbour_57 ?_
        refine xtopi (y := nI d) h3b ?_
        refine xiconst (v := nI 1) C dX1_addNeighbour_58 (by decide) ?_
        refine xiaddN C dX1_addNeighbour_59 ?_
        refine xs_raw C 3 (by omega) p (show _ < 24 by omega) dX1_addNeighbour_60 ?_
        exact xvret C hR dX1_addNeighbour_61 (⟨rfl, _, rfl, fun j h1 h2 => by rw [va_up_ne _ _ h2, eF2, va_up_ne _ _ h1]; exact hXA j h1, fun x hx => by rw [va_up_ne _ _ (by omega), eF2, va_up_self]; exact insN_end hfin hrel (Or.inl h17) x hx, by rw [va_up_self, eF2, va_up_ne _ _ (by omega), hXA 3 (by omega)]⟩)
      ·
        refine xaload_n C 3 rfl dX1_addNeighbour_20 ?_
        refine xiload C 4 rfl dX1_addNeighbour_21 ?_
        refine xiconst (v := nI 1) C dX1_addNeighbour_23 (by decide) ?_
        refine xisubN C (by omega) dX1_addNeighbour_24 ?_
        refine xa_raw C (13 + p) (by omega) (i - 1) (by unfold xlenN; rw [if_neg (by omega), if_neg (by omega), if_pos (by omega)]; omega) dX1_addNeighbour_25 ?_
        have hr25 := hrel (i - 1) (by omega) (by omega)
        refine xtopi (y := nI (fc (i - 1))) hr25.1 ?_
        refine xiload_n C 2 rfl dX1_addNeighbour_26 ?_
        refine xicmp_leN C 46 dX1_addNeighbour_27 (by decide) (by omega) (by omega) (fun h27 => ?_) (fun h27 => ?_)
        ·
          refine xaload_n C 3 rfl dX1_addNeighbour_46 ?_
          refine xiload C 4 rfl dX1_addNeighbour_47 ?_
          refine xiload_n C 2 rfl dX1_addNeighbour_49 ?_
          refine xs_raw C (13 + p) (by omega) i (by unfold xlenN; rw [if_neg (by omega), if_neg (by omega), if_pos (by omega)]; omega) dX1_addNeighbour_50 ?_
          obtain ⟨F2, eF2⟩ : ∃ z : Nat → Nat → Int32, z = va_up FA (13 + p) (upd (FA (13 + p)) i (nI q)) := ⟨_, rfl⟩
          refine xworld (ws' := WX a t I F2 L) (by rw [eF2]) ?_
          have h3b : F2 3 p = nI d := by rw [eF2, va_up_ne _ _ (by omega), hXA 3 (by omega)]; exact h3
          refine xaload_n C 0 rfl dX1_addNeighbour_51 ?_
          refine gX1_21 C dX1_addNeighbour_52 ?_
          refine xiload_n C 1 rfl dX1_addNeighbour_55 ?_
          refine xdup2 C dX1_addNeighbour_56 rfl rfl ?_
          refine xa_raw C 3 (by omega) p (show _ < 24 by omega) dX1_addNeighbour_57 ?_
          refine xtopi (y := nI d) h3b ?_
          refine xiconst (v := nI 1) C dX1_addNeighbour_58 (by decide) ?_
          refine xiaddN C dX1_addNeighbour_59 ?_
          refine xs_raw C 3 (by omega) p (show _ < 24 by omega) dX1_addNeighbour_60 ?_
          exact xvret C hR dX1_addNeighbour_61 (⟨rfl, _, rfl, fun j h1 h2 => by rw [va_up_ne _ _ h2, eF2, va_up_ne _ _ h1]; exact hXA j h1, fun x hx => by rw [va_up_ne _ _ (by omega), eF2, va_up_self]; exact insN_end hfin hrel (Or.inr ⟨h17, h27⟩) x hx, by rw [va_up_self, eF2, va_up_ne _ _ (by omega), hXA 3 (by omega)]⟩)
        ·
          refine xaload_n C 3 rfl dX1_addNeighbour_30 ?_
          refine xiload C 4 rfl dX1_addNeighbour_31 ?_
          refine xaload_n C 3 rfl dX1_addNeighbour_33 ?_
          refine xiload C 4 rfl dX1_addNeighbour_34 ?_
          refine xiconst (v := nI 1) C dX1_addNeighbour_36 (by decide) ?_
          refine xisubN C (by omega) dX1_addNeighbour_37 ?_
          refine xa_raw C (13 + p) (by omega) (i - 1) (by unfold xlenN; rw [if_neg (by omega), if_neg (by omega), if_pos (by omega)]; omega) dX1_addNeighbour_38 ?_
          refine xtopi (y := nI (fc (i - 1))) hr25.1 ?_
          refine xs_raw C (13 + p) (by omega) i (by unfold xlenN; rw [if_neg (by omega), if_neg (by omega), if_pos (by omega)]; omega) dX1_addNeighbour_39 ?_
          obtain ⟨F1, eF1⟩ : ∃ z : Nat → Nat → Int32, z = va_up FA (13 + p) (upd (FA (13 + p)) i (nI (fc (i - 1)))) := ⟨_, rfl⟩
          refine xworld (ws' := WX a t I F1 L) (by rw [eF1]) ?_
          refine xidecN (lv' := [(4, .int (nI (i - 1))), (0, .ref (a 1)), (1, .int (nI p)), (2, .int (nI q)), (3, .ref (a (8 + (13 + p))))]) C (by omega) 4 rfl dX1_addNeighbour_40 (by decide) rfl ?_
          refine xgoto C 15 dX1_addNeighbour_43 (by decide) ?_
          refine xsub [1, 2, 3, 4, 0] rfl ?_
          exact ih15 (i - 1) (va_up fc i (fc (i - 1))) F1 (by omega) (insN_step hfin (by omega) (by omega)) (insN_rel hrel (by omega) (by omega) eF1) (fun j hj => by rw [eF1, va_up_ne _ _ hj]; exact hXA j hj) (by omega)
  refine xsub [2, 3, 4, 1, 0] rfl ?_
  exact LP15 _ d f F (Nat.le_refl _) rfl (fun x h1 h2 => hf x (by omega)) (fun _ _ => rfl) (Nat.lt_succ_self _)
theorem dX1_addLink_0 : decode cX1_addLink 0 = .ok (.aload_n 0, 1) := by decide +kernel
theorem dX1_addLink_1 : decode cX1_addLink 1 = .ok (.getfield 29, 3) := by decide +kernel
theorem dX1_addLink_4 : decode cX1_addLink 4 = .ok (.aload_n 0, 1) := by decide +kernel
theorem dX1_addLink_5 : decode cX1_addLink 5 = .ok (.getfield 39, 3) := by decide +kernel
theorem dX1_addLink_8 : decode cX1_addLink 8 = .ok (.iload_n 1, 1) := by decide +kernel
theorem dX1_addLink_9 : decode cX1_addLink 9 = .ok (.iastore, 1) := by decide +kernel
theorem dX1_addLink_10 : decode cX1_addLink 10 = .ok (.aload_n 0, 1) := by decide +kernel
theorem dX1_addLink_11 : decode cX1_addLink 11 = .ok (.getfield 32, 3) := by decide +kernel
theorem dX1_addLink_14 : decode cX1_addLink 14 = .ok (.aload_n 0, 1) := by decide +kernel
theorem dX1_addLink_15 : decode cX1_addLink 15 = .ok (.getfield 39, 3) := by decide +kernel
theorem dX1_addLink_18 : decode cX1_addLink 18 = .ok (.iload_n 2, 1) := by decide +kernel
theorem dX1_addLink_19 : decode cX1_addLink 19 = .ok (.iastore, 1) := by decide +kernel
theorem dX1_addLink_20 : decode cX1_addLink 20 = .ok (.aload_n 0, 1) := by decide +kernel
theorem dX1_addLink_21 : decode cX1_addLink 21 = .ok (.dup, 1) := by decide +kernel
theorem dX1_addLink_22 : decode cX1_addLink 22 = .ok (.getfield 39, 3) := by decide +kernel
theorem dX1_addLink_25 : decode cX1_addLink 25 = .ok (.iconst 1, 1) := by decide +kernel
theorem dX1_addLink_26 : decode cX1_addLink 26 = .ok (.iadd, 1) := by decide +kernel
theorem dX1_addLink_27 : decode cX1_addLink 27 = .ok (.putfield 39, 3) := by decide +kernel
theorem dX1_addLink_30 : decode cX1_addLink 30 = .ok (.aload_n 0, 1) := by decide +kernel
theorem dX1_addLink_31 : decode cX1_addLink 31 = .ok (.iload_n 1, 1) := by decide +kernel
theorem dX1_addLink_32 : decode cX1_addLink 32 = .ok (.iload_n 2, 1) := by decide +kernel
theorem dX1_addLink_33 : decode cX1_addLink 33 = .ok (.invokevirtual 42, 3) := by decide +kernel
theorem dX1_addLink_36 : decode cX1_addLink 36 = .ok (.aload_n 0, 1) := by decide +kernel
theorem dX1_addLink_37 : decode cX1_addLink 37 = .ok (.iload_n 2, 1) := by decide +kernel
theorem dX1_addLink_38 : decode cX1_addLink 38 = .ok (.iload_n 1, 1) := by decide +kernel
theorem dX1_addLink_39 : decode cX1_addLink 39 = .ok (.invokevirtual 42, 3) := by decide +kernel
theorem dX1_addLink_42 : decode cX1_addLink 42 = .ok (.return_, 1) := by decide +kernel
def rX1_addLink : Room := { frames := 1, cells := 0, slots := 0, locals := 24 }
theorem yk_X1_addLink : YK yX1_addLink cX1_addLink 3 none 2 := ⟨xim_X1_addLink, xse_X1_addLink, xin_X1, xco_X1_addLink, by decide +kernel⟩
set_option maxRecDepth 4000 in
theorem c_X1_addLink {l : Launch} {D : va_G} {t : Nat → ClassId} {a : Nat → Nat} {I : Nat → Int32} {F : Nat → Nat → Int32} {L : Nat → Int64} {K : Cfg} (hK : CFG K I F) (hW : WFK K) (hm : km K < 60) (p q : Nat) (hp : p < kn K) (hq : q < kn K) (hne : p ≠ q) (hdp : kdg K p < 6) (hdq : kdg K q < 6) : CT l D t yX1_addLink cX1_addLink 3 none rX1_addLink 0 0 [.ref (a 1), .int (nI p), .int (nI q)] (WX a t I F L) (VP (fun w => ∃ (I' : Nat → Int32) (F' : Nat → Nat → Int32), w = WX a t I' F' L ∧ CFG (addL K p q) I' F' ∧ (∀ j, 6 ≤ j → j < 13 → F' j = F j) ∧ (∀ k, 5 ≤ k → I' k = I k))) := by
  refine CT.of (by decide +kernel) (by simp [lg_sl, Value.category]) (fun X C hR => ?_)
  refine xlocals (lv' := [(0, .ref (a 1)), (1, .int (nI p)), (2, .int (nI q))]) rfl ?_
  have fn24 := hW.n24; have fm60 := hW.m60; have fk2 := hW.k2; have fu1 := hW.u1; have fu9 := hW.u9; have fv1 := hW.v1; have fv9 := hW.v9
  refine xaload_n C 0 rfl dX1_addLink_0 ?_
  refine gX1_29 C dX1_addLink_1 ?_
  refine xaload_n C 0 rfl dX1_addLink_4 ?_
  refine gX1_39 C dX1_addLink_5 ?_
  refine xtopi (y := nI (km K)) (hK.m) ?_
  refine xiload_n C 1 rfl dX1_addLink_8 ?_
  refine xs_raw C 4 (by omega) (km K) (show _ < 60 by omega) dX1_addLink_9 ?_
  refine xaload_n C 0 rfl dX1_addLink_10 ?_
  refine gX1_32 C dX1_addLink_11 ?_
  refine xaload_n C 0 rfl dX1_addLink_14 ?_
  refine gX1_39 C dX1_addLink_15 ?_
  refine xtopi (y := nI (km K)) (hK.m) ?_
  refine xiload_n C 2 rfl dX1_addLink_18 ?_
  refine xs_raw C 5 (by omega) (km K) (show _ < 60 by omega) dX1_addLink_19 ?_
  obtain ⟨FA, eFA⟩ : ∃ z : Nat → Nat → Int32, z = va_up (va_up F 4 (upd (F 4) (km K) (nI p))) 5 (upd ((va_up F 4 (upd (F 4) (km K) (nI p))) 5) (km K) (nI q)) := ⟨_, rfl⟩
  refine xworld (ws' := WX a t I FA L) (by rw [eFA]) ?_
  have hXA : ∀ j, j ≠ 4 → j ≠ 5 → FA j = F j := fun j h1 h2 => by rw [eFA, va_up_ne _ _ h2, va_up_ne _ _ h1]
  refine xaload_n C 0 rfl dX1_addLink_20 ?_
  refine xdup C dX1_addLink_21 rfl ?_
  refine gX1_39 C dX1_addLink_22 ?_
  refine xtopi (y := nI (km K)) (hK.m) ?_
  refine xiconst (v := nI 1) C dX1_addLink_25 (by decide) ?_
  refine xiaddN C dX1_addLink_26 ?_
  refine pX1_39 C dX1_addLink_27 ?_
  refine xaload_n C 0 rfl dX1_addLink_30 ?_
  refine xiload_n C 1 rfl dX1_addLink_31 ?_
  refine xiload_n C 2 rfl dX1_addLink_32 ?_
  refine xcVV C (c_X1_addNeighbour p (by omega) q (by omega) (kdg K p) hdp (knb K p) (by rw [hXA 3 (by omega) (by omega)]; exact hK.dg (by omega)) (fun x hx => ⟨by rw [hXA _ (by omega) (by omega)]; exact hK.nb hp hx, by have := hW.nb hp hx; omega⟩)) yk_X1_addNeighbour 1 rfl rfl xml_X1_42 ⟨⟨Nat.le_of_ble_eq_true rfl, Nat.le_of_ble_eq_true rfl⟩, ⟨rfl, rfl⟩, ⟨Nat.zero_le _, Nat.zero_le _⟩⟩ rfl (Nat.le_of_ble_eq_true rfl) dX1_addLink_33 (fun wE hE => ?_)
  obtain ⟨FB, rfl, hB1, hB2, hB3⟩ := hE
  refine xaload_n C 0 rfl dX1_addLink_36 ?_
  refine xiload_n C 2 rfl dX1_addLink_37 ?_
  refine xiload_n C 1 rfl dX1_addLink_38 ?_
  refine xcVV C (c_X1_addNeighbour q (by omega) p (by omega) (kdg K q) hdq (knb K q) (by rw [hB3]; unfold upd; rw [if_neg (Ne.symm hne), hXA 3 (by omega) (by omega)]; exact hK.dg (by omega)) (fun x hx => ⟨by rw [hB1 _ (by omega) (by omega), hXA _ (by omega) (by omega)]; exact hK.nb hq hx, by have := hW.nb hq hx; omega⟩)) yk_X1_addNeighbour 1 rfl rfl xml_X1_42 ⟨⟨Nat.le_of_ble_eq_true rfl, Nat.le_of_ble_eq_true rfl⟩, ⟨rfl, rfl⟩, ⟨Nat.zero_le _, Nat.zero_le _⟩⟩ rfl (Nat.le_of_ble_eq_true rfl) dX1_addLink_39 (fun wE hE => ?_)
  obtain ⟨FC, rfl, hC1, hC2, hC3⟩ := hE
  exact xvret C hR dX1_addLink_42 (⟨rfl, _, FC, rfl, CFG.addL hK hW hm hp hq hne hdp hdq (fun j h1 h2 => by rw [eFA, va_up_ne _ _ h2, va_up_ne _ _ h1]) (by rw [eFA, va_up_ne _ _ (by decide), va_up_self]) (by rw [eFA, va_up_self, va_up_ne _ _ (by decide)]) hB1 hB2 hB3 hC1 hC2 hC3, fun j h1 h2 => by rw [hC1 j (by omega) (by omega), hB1 j (by omega) (by omega), hXA j (by omega) (by omega)], fun k hk => va_up_ne _ _ (by omega)⟩)
