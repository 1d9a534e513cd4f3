/-! Draws (written by my program parts_x0.py). -/
theorem xlen24 {i : Nat} (h6 : 6 ≤ i) (hi : i < 13) : 24 ≤ xlenN i := by unfold xlenN; rw [if_neg (by omega), if_neg (by omega), if_neg (by omega)]; omega
/-- both are the same state behind so many ticks from -b on; they have been by then; the tick at which they first were -/
def eqAt (K : Cfg) (sd : Int32) (b i : Nat) : Prop := ∀ p, p < kn K → itN K sd (hS K) (-nI b) i p = itN K sd (lS K) (-nI b) i p
def metP (K : Cfg) (sd : Int32) (b i : Nat) : Prop := ∃ x, x ≤ i ∧ eqAt K sd b x
noncomputable def mtN (K : Cfg) (sd : Int32) (b : Nat) : Nat → Int32
  | 0 => 0
  | i + 1 => if bn (metP K sd b i) = 1 then mtN K sd b i else if bn (eqAt K sd b (i + 1)) = 1 then -nI b + nI i else mtN K sd b i
theorem metP_0 {K : Cfg} {sd : Int32} {b : Nat} : bn (metP K sd b 0) = bn (∀ p, p < kn K → hS K p = lS K p) := bn_iff ⟨fun ⟨x, h1, h2⟩ => by
  have : x = 0 := by omega
  subst this
  exact h2, fun h => ⟨0, Nat.le_refl _, h⟩⟩
theorem metP_keep {K : Cfg} {sd : Int32} {b i : Nat} (h : metP K sd b i) : bn (metP K sd b (i + 1)) = bn (metP K sd b i) := by
  rw [bn_t h, bn_t (P := metP K sd b (i + 1)) (by obtain ⟨x, h1, h2⟩ := h; exact ⟨x, by omega, h2⟩)]
theorem metP_not {K : Cfg} {sd : Int32} {b i : Nat} (h : ¬ metP K sd b i) (h2 : ¬ ∀ p, p < kn K → itN K sd (hS K) (-nI b) (i + 1) p = itN K sd (lS K) (-nI b) (i + 1) p) : bn (metP K sd b (i + 1)) = bn (metP K sd b i) := by
  rw [bn_f h, bn_f (P := metP K sd b (i + 1))]
  intro ⟨x, h3, h4⟩
  by_cases e : x = i + 1
  · subst e; exact h2 h4
  · exact h ⟨x, by omega, h4⟩
theorem metP_now {K : Cfg} {sd : Int32} {b i : Nat} (h : ¬ metP K sd b i) (h2 : ∀ p, p < kn K → itN K sd (hS K) (-nI b) (i + 1) p = itN K sd (lS K) (-nI b) (i + 1) p) : bn (metP K sd b (i + 1)) = 1 := bn_t ⟨i + 1, Nat.le_refl _, h2⟩
theorem mtN_keep {K : Cfg} {sd : Int32} {b i : Nat} (h : metP K sd b i) : mtN K sd b (i + 1) = mtN K sd b i := by
  show (if _ then _ else _) = _
  rw [if_pos (bn_t h)]
theorem mtN_not {K : Cfg} {sd : Int32} {b i : Nat} (h : ¬ metP K sd b i) (h2 : ¬ ∀ p, p < kn K → itN K sd (hS K) (-nI b) (i + 1) p = itN K sd (lS K) (-nI b) (i + 1) p) : mtN K sd b (i + 1) = mtN K sd b i := by
  show (if _ then _ else if _ then _ else _) = _
  rw [if_neg (by rw [bn_f h]; decide), if_neg (by rw [bn_f (P := eqAt K sd b (i + 1)) h2]; decide)]
theorem mtN_now {K : Cfg} {sd : Int32} {b i : Nat} (h : ¬ metP K sd b i) (h2 : ∀ p, p < kn K → itN K sd (hS K) (-nI b) (i + 1) p = itN K sd (lS K) (-nI b) (i + 1) p) : mtN K sd b (i + 1) = -nI b + nI i := by
  show (if _ then _ else if _ then _ else _) = _
  rw [if_neg (by rw [bn_f h]; decide), if_pos (bn_t (P := eqAt K sd b (i + 1)) h2)]
/-- the draw: the least exponent -/
def eqN (K : Cfg) (sd : Int32) (b : Nat) : Prop := eqAt K sd b b
noncomputable def farN (K : Cfg) (sd : Int32) : Option Nat := fst (fun e => eqN K sd (2 ^ e)) 13
theorem far_some {K : Cfg} {sd : Int32} {e : Nat} (hno : ∀ x, x < e → ¬ eqN K sd (2 ^ x)) (h : ∀ p, p < kn K → itN K sd (hS K) (-nI (2 ^ e)) (2 ^ e) p = itN K sd (lS K) (-nI (2 ^ e)) (2 ^ e) p) (he : e ≤ 12) : farN K sd = some e := fst_some (P := fun e => eqN K sd (2 ^ e)) h hno (by omega)
theorem far_none {K : Cfg} {sd : Int32} (hno : ∀ x, x < 13 → ¬ eqN K sd (2 ^ x)) : farN K sd = none := fst_none (P := fun e => eqN K sd (2 ^ e)) hno
theorem far13 {e b : Nat} (he : e ≤ 13) (hb : b = 2 ^ e) (h : 4096 < b) : e = 13 := by
  rcases Nat.lt_or_ge e 13 with q | q
  · have : 2 ^ e ≤ 2 ^ 12 := Nat.pow_le_pow_right (by decide) (by omega)
    omega
  · omega
theorem far12 {e b : Nat} (he : e ≤ 13) (hb : b = 2 ^ e) (h : b ≤ 4096) : e ≤ 12 := by
  by_cases q : e = 13
  · subst q; omega
  · omega
theorem t_int {b i : Nat} (hb : b ≤ 4096) (hi : i ≤ b) : (-nI b + nI i) = nI i - nI b := by rw [Int32.add_comm, ← Int32.sub_eq_add_neg]
theorem tge {b i : Nat} (hb : b ≤ 4096) (hi : i ≤ b) (h : 0 ≤ -nI b + nI i) : i = b := by
  rw [t_int hb hi] at h
  have h1 := Int32.le_iff_toInt_le.mp h
  rw [pk_sub_toInt (by omega) (by omega)] at h1
  have h2 : (0 : Int32).toInt = 0 := by decide
  omega
theorem tnge {b i : Nat} (hb : b ≤ 4096) (hi : i ≤ b) (h : ¬ 0 ≤ -nI b + nI i) : i < b := by
  rcases Nat.lt_or_ge i b with q | q
  · exact q
  · have e : i = b := by omega
    subst e
    exact absurd (by rw [t_int hb hi]; simp) h
theorem dX5_copyRow_0 : decode cX5_copyRow 0 = .ok (.aload_n 0, 1) := by decide +kernel
theorem dX5_copyRow_1 : decode cX5_copyRow 1 = .ok (.iconst 0, 1) := by decide +kernel
theorem dX5_copyRow_2 : decode cX5_copyRow 2 = .ok (.aload_n 1, 1) := by decide +kernel
theorem dX5_copyRow_3 : decode cX5_copyRow 3 = .ok (.iconst 0, 1) := by decide +kernel
theorem dX5_copyRow_4 : decode cX5_copyRow 4 = .ok (.bipush 24, 2) := by decide +kernel
theorem dX5_copyRow_6 : decode cX5_copyRow 6 = .ok (.invokestatic 205, 3) := by decide +kernel
theorem dX5_copyRow_9 : decode cX5_copyRow 9 = .ok (.return_, 1) := by decide +kernel
def rX5_copyRow : Room := { frames := 1, cells := 0, slots := 0, locals := 39 }
theorem sk_X5_copyRow : SK yX5_copyRow cX5_copyRow 2 none 2 := ⟨xst_X5_copyRow, xin_X5, xco_X5_copyRow, by decide +kernel⟩
set_option maxRecDepth 4000 in
theorem c_X5_copyRow {l : Launch} {D : va_G} {t : Nat → ClassId} {a : Nat → Nat} {I : Nat → Int32} {F : Nat → Nat → Int32} {L : Nat → Int64} (i j : Nat) (hi6 : 6 ≤ i) (hi : i < 13) (hj6 : 6 ≤ j) (hj : j < 13) : CT l D t yX5_copyRow cX5_copyRow 2 none rX5_copyRow 0 0 [.ref (a (8 + i)), .ref (a (8 + j))] (WX a t I F L) (VP (fun w => ∃ F' : Nat → Nat → Int32, w = WX a t I F' L ∧ (∀ q, q ≠ j → F' q = F q) ∧ ∀ p, p < 24 → F' j p = F i p)) := by
  refine CT.of (by decide +kernel) (by simp [lg_sl, Value.category]) (fun X C hR => ?_)
  refine xlocals (lv' := [(0, .ref (a (8 + i))), (1, .ref (a (8 + j)))]) rfl ?_
  refine xaload_n C 0 rfl dX5_copyRow_0 ?_
  refine xiconst (v := 0) C dX5_copyRow_1 (by decide) ?_
  refine xaload_n C 1 rfl dX5_copyRow_2 ?_
  refine xiconst (v := 0) C dX5_copyRow_3 (by decide) ?_
  refine xbipush (v := nI 24) C dX5_copyRow_4 (by decide) ?_
  refine xcopy C (8 + i) (8 + j) (WXa_get (by omega)) (WXa_get (by omega)) 24 (by decide) (xlen24 hi6 hi) (xlen24 hj6 hj) xml_X5_205 (Nat.le_of_ble_eq_true rfl) (Nat.le_of_ble_eq_true rfl) dX5_copyRow_6 (WXa_set (by omega) _) ?_
  exact xvret C hR dX5_copyRow_9 (⟨rfl, _, rfl, fun q hq => va_up_ne _ _ hq, fun p hp => by rw [va_up_self]; unfold va_cpy; rw [if_pos (by omega)]; congr 1; omega⟩)
theorem dX0_areOneState_0 : decode cX0_areOneState 0 = .ok (.iconst 0, 1) := by decide +kernel
theorem dX0_areOneState_1 : decode cX0_areOneState 1 = .ok (.istore_n 1, 1) := by decide +kernel
theorem dX0_areOneState_2 : decode cX0_areOneState 2 = .ok (.iload_n 1, 1) := by decide +kernel
theorem dX0_areOneState_3 : decode cX0_areOneState 3 = .ok (.aload_n 0, 1) := by decide +kernel
theorem dX0_areOneState_4 : decode cX0_areOneState 4 = .ok (.getfield 25, 3) := by decide +kernel
theorem dX0_areOneState_7 : decode cX0_areOneState 7 = .ok (.getfield 59, 3) := by decide +kernel
theorem dX0_areOneState_10 : decode cX0_areOneState 10 = .ok (.if_icmp .ge 26, 3) := by decide +kernel
theorem dX0_areOneState_13 : decode cX0_areOneState 13 = .ok (.aload_n 0, 1) := by decide +kernel
theorem dX0_areOneState_14 : decode cX0_areOneState 14 = .ok (.getfield 9, 3) := by decide +kernel
theorem dX0_areOneState_17 : decode cX0_areOneState 17 = .ok (.iload_n 1, 1) := by decide +kernel
theorem dX0_areOneState_18 : decode cX0_areOneState 18 = .ok (.iaload, 1) := by decide +kernel
theorem dX0_areOneState_19 : decode cX0_areOneState 19 = .ok (.aload_n 0, 1) := by decide +kernel
theorem dX0_areOneState_20 : decode cX0_areOneState 20 = .ok (.getfield 15, 3) := by decide +kernel
theorem dX0_areOneState_23 : decode cX0_areOneState 23 = .ok (.iload_n 1, 1) := by decide +kernel
theorem dX0_areOneState_24 : decode cX0_areOneState 24 = .ok (.iaload, 1) := by decide +kernel
theorem dX0_areOneState_25 : decode cX0_areOneState 25 = .ok (.if_icmp .eq 5, 3) := by decide +kernel
theorem dX0_areOneState_28 : decode cX0_areOneState 28 = .ok (.iconst 0, 1) := by decide +kernel
theorem dX0_areOneState_29 : decode cX0_areOneState 29 = .ok (.ireturn, 1) := by decide +kernel
theorem dX0_areOneState_30 : decode cX0_areOneState 30 = .ok (.iinc 1 1, 3) := by decide +kernel
theorem dX0_areOneState_33 : decode cX0_areOneState 33 = .ok (.goto (-31), 3) := by decide +kernel
theorem dX0_areOneState_36 : decode cX0_areOneState 36 = .ok (.iconst 1, 1) := by decide +kernel
theorem dX0_areOneState_37 : decode cX0_areOneState 37 = .ok (.ireturn, 1) := by decide +kernel
def rX0_areOneState : Room := { frames := 0, cells := 0, slots := 0, locals := 0 }
theorem yk_X0_areOneState : YK yX0_areOneState cX0_areOneState 2 (some .boolean) 0 := ⟨xim_X0_areOneState, xse_X0_areOneState, xin_X0, xco_X0_areOneState, by decide +kernel⟩
set_option maxRecDepth 4000 in
theorem c_X0_areOneState {l : Launch} {D : va_G} {t : Nat → ClassId} {a : Nat → Nat} {I : Nat → Int32} {F : Nat → Nat → Int32} {L : Nat → Int64} {K : Cfg} (hK : CFG K I F) (hW : WFK K) {hi lo : Nat → Nat} (hH : RA (kn K) (F 8) hi) (hL : RA (kn K) (F 9) lo) : CT l D t yX0_areOneState cX0_areOneState 2 (some .boolean) rX0_areOneState 0 0 [.ref (a 4)] (WX a t I F L) (RP (.int (nI (bn (∀ p, p < kn K → hi p = lo p)))) (WX a t I F L)) := by
  refine CT.of (by decide +kernel) (by simp [lg_sl, Value.category]) (fun X C hR => ?_)
  refine xlocals (lv' := [(0, .ref (a 4))]) rfl ?_
  have fn24 := hW.n24; have fm60 := hW.m60; have fk2 := hW.k2; have fu1 := hW.u1; have fu9 := hW.u9; have fv1 := hW.v1; have fv9 := hW.v9
  refine xiconst (v := nI 0) C dX0_areOneState_0 (by decide) ?_
  refine xistore_n (lv' := [(1, .int (nI 0)), (0, .ref (a 4))]) C dX0_areOneState_1 (by decide) rfl ?_
  have LP2 : ∀ (fu2 : Nat) (i : Nat) (hi1 : i ≤ kn K) (ha : ∀ p, p < i → hi p = lo p), kn K - i < fu2 → XW X 0 0 (WX a t I F L) [(0, .ref (a 4)), (1, .int (nI i))] 2 [] := by
    intro fu2
    induction fu2 with
    | zero => intro i hi1 ha hm2; exact absurd hm2 (Nat.not_lt_zero _)
    | succ fu2 ih2 =>
      intro i hi1 ha hm2
      refine xiload_n C 1 rfl dX0_areOneState_2 ?_
      refine xaload_n C 0 rfl dX0_areOneState_3 ?_
      refine gX0_25 C dX0_areOneState_4 ?_
      refine gX0_59K C hK dX0_areOneState_7 ?_
      refine xicmp_geN C 36 dX0_areOneState_10 (by decide) (by omega) (by omega) (fun h10 => ?_) (fun h10 => ?_)
      ·
        refine xiconst (v := nI 1) C dX0_areOneState_36 (by decide) ?_
        exact xret C hR (by rfl) dX0_areOneState_37 (RPn ((bn_t (fun p h => ha p (by omega))).symm))
      ·
        refine xaload_n C 0 rfl dX0_areOneState_13 ?_
        refine gX0_9 C dX0_areOneState_14 ?_
        refine xiload_n C 1 rfl dX0_areOneState_17 ?_
        refine xa_st C hW 8 (by omega) (by omega) hH i (by omega) dX0_areOneState_18 ?_
        have fb18 := (hH i (by omega)).2
        refine xaload_n C 0 rfl dX0_areOneState_19 ?_
        refine gX0_15 C dX0_areOneState_20 ?_
        refine xiload_n C 1 rfl dX0_areOneState_23 ?_
        refine xa_st C hW 9 (by omega) (by omega) hL i (by omega) dX0_areOneState_24 ?_
        have fb24 := (hL i (by omega)).2
        refine xicmp_eqN C 30 dX0_areOneState_25 (by decide) (by omega) (by omega) (fun h25 => ?_) (fun h25 => ?_)
        ·
          refine xiincN (lv' := [(1, .int (nI (i + 1))), (0, .ref (a 4))]) C 1 rfl dX0_areOneState_30 (by decide) rfl ?_
          refine xgoto C 2 dX0_areOneState_33 (by decide) ?_
          refine xsub [1, 0] rfl ?_
          exact ih2 (i + 1) (by omega) (lt_s ha h25) (by omega)
        ·
          refine xiconst (v := nI 0) C dX0_areOneState_28 (by decide) ?_
          exact xret C hR (by rfl) dX0_areOneState_29 (RPn ((bn_f (fun q => h25 (q i (by omega)))).symm))
  refine xsub [1, 0] rfl ?_
  exact LP2 _ 0 (Nat.zero_le _) (fun p h => absurd h (Nat.not_lt_zero _)) (Nat.lt_succ_self _)
theorem dX0_unlikePlaces_0 : decode cX0_unlikePlaces 0 = .ok (.iconst 0, 1) := by decide +kernel
theorem dX0_unlikePlaces_1 : decode cX0_unlikePlaces 1 = .ok (.istore_n 1, 1) := by decide +kernel
theorem dX0_unlikePlaces_2 : decode cX0_unlikePlaces 2 = .ok (.iconst 0, 1) := by decide +kernel
theorem dX0_unlikePlaces_3 : decode cX0_unlikePlaces 3 = .ok (.istore_n 2, 1) := by decide +kernel
theorem dX0_unlikePlaces_4 : decode cX0_unlikePlaces 4 = .ok (.iload_n 2, 1) := by decide +kernel
theorem dX0_unlikePlaces_5 : decode cX0_unlikePlaces 5 = .ok (.aload_n 0, 1) := by decide +kernel
theorem dX0_unlikePlaces_6 : decode cX0_unlikePlaces 6 = .ok (.getfield 25, 3) := by decide +kernel
theorem dX0_unlikePlaces_9 : decode cX0_unlikePlaces 9 = .ok (.getfield 59, 3) := by decide +kernel
theorem dX0_unlikePlaces_12 : decode cX0_unlikePlaces 12 = .ok (.if_icmp .ge 27, 3) := by decide +kernel
theorem dX0_unlikePlaces_15 : decode cX0_unlikePlaces 15 = .ok (.aload_n 0, 1) := by decide +kernel
theorem dX0_unlikePlaces_16 : decode cX0_unlikePlaces 16 = .ok (.getfield 9, 3) := by decide +kernel
theorem dX0_unlikePlaces_19 : decode cX0_unlikePlaces 19 = .ok (.iload_n 2, 1) := by decide +kernel
theorem dX0_unlikePlaces_20 : decode cX0_unlikePlaces 20 = .ok (.iaload, 1) := by decide +kernel
theorem dX0_unlikePlaces_21 : decode cX0_unlikePlaces 21 = .ok (.aload_n 0, 1) := by decide +kernel
theorem dX0_unlikePlaces_22 : decode cX0_unlikePlaces 22 = .ok (.getfield 15, 3) := by decide +kernel
theorem dX0_unlikePlaces_25 : decode cX0_unlikePlaces 25 = .ok (.iload_n 2, 1) := by decide +kernel
theorem dX0_unlikePlaces_26 : decode cX0_unlikePlaces 26 = .ok (.iaload, 1) := by decide +kernel
theorem dX0_unlikePlaces_27 : decode cX0_unlikePlaces 27 = .ok (.if_icmp .eq 6, 3) := by decide +kernel
theorem dX0_unlikePlaces_30 : decode cX0_unlikePlaces 30 = .ok (.iinc 1 1, 3) := by decide +kernel
theorem dX0_unlikePlaces_33 : decode cX0_unlikePlaces 33 = .ok (.iinc 2 1, 3) := by decide +kernel
theorem dX0_unlikePlaces_36 : decode cX0_unlikePlaces 36 = .ok (.goto (-32), 3) := by decide +kernel
theorem dX0_unlikePlaces_39 : decode cX0_unlikePlaces 39 = .ok (.iload_n 1, 1) := by decide +kernel
theorem dX0_unlikePlaces_40 : decode cX0_unlikePlaces 40 = .ok (.ireturn, 1) := by decide +kernel
def rX0_unlikePlaces : Room := { frames := 0, cells := 0, slots := 0, locals := 0 }
theorem yk_X0_unlikePlaces : YK yX0_unlikePlaces cX0_unlikePlaces 3 (some .int) 0 := ⟨xim_X0_unlikePlaces, xse_X0_unlikePlaces, xin_X0, xco_X0_unlikePlaces, by decide +kernel⟩
set_option maxRecDepth 4000 in
theorem c_X0_unlikePlaces {l : Launch} {D : va_G} {t : Nat → ClassId} {a : Nat → Nat} {I : Nat → Int32} {F : Nat → Nat → Int32} {L : Nat → Int64} {K : Cfg} (hK : CFG K I F) (hW : WFK K) {hi lo : Nat → Nat} (hH : RA (kn K) (F 8) hi) (hL : RA (kn K) (F 9) lo) : CT l D t yX0_unlikePlaces cX0_unlikePlaces 3 (some .int) rX0_unlikePlaces 0 0 [.ref (a 4)] (WX a t I F L) (RP (.int (nI (cn (fun p => hi p ≠ lo p) (kn K)))) (WX a t I F L)) := by
  refine CT.of (by decide +kernel) (by simp [lg_sl, Value.category]) (fun X C hR => ?_)
  refine xlocals (lv' := [(0, .ref (a 4))]) rfl ?_
  have fn24 := hW.n24; have fm60 := hW.m60; have fk2 := hW.k2; have fu1 := hW.u1; have fu9 := hW.u9; have fv1 := hW.v1; have fv9 := hW.v9
  refine xiconst (v := nI 0) C dX0_unlikePlaces_0 (by decide) ?_
  refine xistore_n (lv' := [(1, .int (nI 0)), (0, .ref (a 4))]) C dX0_unlikePlaces_1 (by decide) rfl ?_
  refine xiconst (v := nI 0) C dX0_unlikePlaces_2 (by decide) ?_
  refine xistore_n (lv' := [(2, .int (nI 0)), (1, .int (nI 0)), (0, .ref (a 4))]) C dX0_unlikePlaces_3 (by decide) rfl ?_
  have LP4 : ∀ (fu4 : Nat) (i : Nat) (hi1 : i ≤ kn K), kn K - i < fu4 → XW X 0 0 (WX a t I F L) [(0, .ref (a 4)), (1, .int (nI (cn (fun p => hi p ≠ lo p) i))), (2, .int (nI i))] 4 [] := by
    intro fu4
    induction fu4 with
    | zero => intro i hi1 hm4; exact absurd hm4 (Nat.not_lt_zero _)
    | succ fu4 ih4 =>
      intro i hi1 hm4
      refine xiload_n C 2 rfl dX0_unlikePlaces_4 ?_
      refine xaload_n C 0 rfl dX0_unlikePlaces_5 ?_
      refine gX0_25 C dX0_unlikePlaces_6 ?_
      refine gX0_59K C hK dX0_unlikePlaces_9 ?_
      refine xicmp_geN C 39 dX0_unlikePlaces_12 (by decide) (by omega) (by omega) (fun h12 => ?_) (fun h12 => ?_)
      ·
        refine xiload_n C 1 rfl dX0_unlikePlaces_39 ?_
        exact xret C hR (rfl) dX0_unlikePlaces_40 (RPn (by (have e : i = kn K := (by omega)); subst e; rfl))
      ·
        refine xaload_n C 0 rfl dX0_unlikePlaces_15 ?_
        refine gX0_9 C dX0_unlikePlaces_16 ?_
        refine xiload_n C 2 rfl dX0_unlikePlaces_19 ?_
        refine xa_st C hW 8 (by omega) (by omega) hH i (by omega) dX0_unlikePlaces_20 ?_
        have fb20 := (hH i (by omega)).2
        refine xaload_n C 0 rfl dX0_unlikePlaces_21 ?_
        refine gX0_15 C dX0_unlikePlaces_22 ?_
        refine xiload_n C 2 rfl dX0_unlikePlaces_25 ?_
        refine xa_st C hW 9 (by omega) (by omega) hL i (by omega) dX0_unlikePlaces_26 ?_
        have fb26 := (hL i (by omega)).2
        refine xicmp_eqN C 33 dX0_unlikePlaces_27 (by decide) (by omega) (by omega) (fun h27 => ?_) (fun h27 => ?_)
        ·
          refine xlocals (lv' := [(0, .ref (a 4)), (1, .int (nI (cn (fun p => hi p ≠ lo p) (i + 1)))), (2, .int (nI i))]) (by rw [show cn (fun p => hi p ≠ lo p) (i + 1) = cn (fun p => hi p ≠ lo p) i + bn (hi i ≠ lo i) from rfl, bn_f (fun q => q h27), Nat.add_zero]) ?_
          refine xiincN (lv' := [(2, .int (nI (i + 1))), (0, .ref (a 4)), (1, .int (nI (cn (fun p => hi p ≠ lo p) (i + 1))))]) C 2 rfl dX0_unlikePlaces_33 (by decide) rfl ?_
          refine xgoto C 4 dX0_unlikePlaces_36 (by decide) ?_
          refine xsub [1, 2, 0] rfl ?_
          exact ih4 (i + 1) (by omega) (by omega)
        ·
          refine xiincN (lv' := [(1, .int (nI (cn (fun p => hi p ≠ lo p) i + 1))), (0, .ref (a 4)), (2, .int (nI i))]) C 1 rfl dX0_unlikePlaces_30 (by decide) rfl ?_
          refine xlocals (lv' := [(1, .int (nI (cn (fun p => hi p ≠ lo p) (i + 1)))), (0, .ref (a 4)), (2, .int (nI i))]) (by rw [show cn (fun p => hi p ≠ lo p) (i + 1) = cn (fun p => hi p ≠ lo p) i + bn (hi i ≠ lo i) from rfl, bn_t h27]) ?_
          refine xiincN (lv' := [(2, .int (nI (i + 1))), (1, .int (nI (cn (fun p => hi p ≠ lo p) (i + 1)))), (0, .ref (a 4))]) C 2 rfl dX0_unlikePlaces_33 (by decide) rfl ?_
          refine xgoto C 4 dX0_unlikePlaces_36 (by decide) ?_
          refine xsub [2, 1, 0] rfl ?_
          exact ih4 (i + 1) (by omega) (by omega)
  refine xsub [2, 1, 0] rfl ?_
  exact LP4 _ 0 (Nat.zero_le _) (Nat.lt_succ_self _)
theorem dX0_runBoth_0 : decode cX0_runBoth 0 = .ok (.aload_n 0, 1) := by decide +kernel
theorem dX0_runBoth_1 : decode cX0_runBoth 1 = .ok (.getfield 29, 3) := by decide +kernel
theorem dX0_runBoth_4 : decode cX0_runBoth 4 = .ok (.getfield 37, 3) := by decide +kernel
theorem dX0_runBoth_7 : decode cX0_runBoth 7 = .ok (.aload_n 0, 1) := by decide +kernel
theorem dX0_runBoth_8 : decode cX0_runBoth 8 = .ok (.getfield 9, 3) := by decide +kernel
theorem dX0_runBoth_11 : decode cX0_runBoth 11 = .ok (.invokestatic 40, 3) := by decide +kernel
theorem dX0_runBoth_14 : decode cX0_runBoth 14 = .ok (.aload_n 0, 1) := by decide +kernel
theorem dX0_runBoth_15 : decode cX0_runBoth 15 = .ok (.getfield 29, 3) := by decide +kernel
theorem dX0_runBoth_18 : decode cX0_runBoth 18 = .ok (.getfield 44, 3) := by decide +kernel
theorem dX0_runBoth_21 : decode cX0_runBoth 21 = .ok (.aload_n 0, 1) := by decide +kernel
theorem dX0_runBoth_22 : decode cX0_runBoth 22 = .ok (.getfield 15, 3) := by decide +kernel
theorem dX0_runBoth_25 : decode cX0_runBoth 25 = .ok (.invokestatic 40, 3) := by decide +kernel
theorem dX0_runBoth_28 : decode cX0_runBoth 28 = .ok (.aload_n 0, 1) := by decide +kernel
theorem dX0_runBoth_29 : decode cX0_runBoth 29 = .ok (.invokevirtual 45, 3) := by decide +kernel
theorem dX0_runBoth_32 : decode cX0_runBoth 32 = .ok (.istore_n 3, 1) := by decide +kernel
theorem dX0_runBoth_33 : decode cX0_runBoth 33 = .ok (.aload_n 0, 1) := by decide +kernel
theorem dX0_runBoth_34 : decode cX0_runBoth 34 = .ok (.iconst 0, 1) := by decide +kernel
theorem dX0_runBoth_35 : decode cX0_runBoth 35 = .ok (.putfield 49, 3) := by decide +kernel
theorem dX0_runBoth_38 : decode cX0_runBoth 38 = .ok (.iload_n 2, 1) := by decide +kernel
theorem dX0_runBoth_39 : decode cX0_runBoth 39 = .ok (.ineg, 1) := by decide +kernel
theorem dX0_runBoth_40 : decode cX0_runBoth 40 = .ok (.istore 4, 2) := by decide +kernel
theorem dX0_runBoth_42 : decode cX0_runBoth 42 = .ok (.iload 4, 2) := by decide +kernel
theorem dX0_runBoth_44 : decode cX0_runBoth 44 = .ok (.ifCond .ge 58, 3) := by decide +kernel
theorem dX0_runBoth_47 : decode cX0_runBoth 47 = .ok (.aload_n 0, 1) := by decide +kernel
theorem dX0_runBoth_48 : decode cX0_runBoth 48 = .ok (.getfield 33, 3) := by decide +kernel
theorem dX0_runBoth_51 : decode cX0_runBoth 51 = .ok (.aload_n 0, 1) := by decide +kernel
theorem dX0_runBoth_52 : decode cX0_runBoth 52 = .ok (.getfield 9, 3) := by decide +kernel
theorem dX0_runBoth_55 : decode cX0_runBoth 55 = .ok (.iload_n 1, 1) := by decide +kernel
theorem dX0_runBoth_56 : decode cX0_runBoth 56 = .ok (.iload 4, 2) := by decide +kernel
theorem dX0_runBoth_58 : decode cX0_runBoth 58 = .ok (.invokevirtual 53, 3) := by decide +kernel
theorem dX0_runBoth_61 : decode cX0_runBoth 61 = .ok (.pop, 1) := by decide +kernel
theorem dX0_runBoth_62 : decode cX0_runBoth 62 = .ok (.aload_n 0, 1) := by decide +kernel
theorem dX0_runBoth_63 : decode cX0_runBoth 63 = .ok (.getfield 33, 3) := by decide +kernel
theorem dX0_runBoth_66 : decode cX0_runBoth 66 = .ok (.aload_n 0, 1) := by decide +kernel
theorem dX0_runBoth_67 : decode cX0_runBoth 67 = .ok (.getfield 15, 3) := by decide +kernel
theorem dX0_runBoth_70 : decode cX0_runBoth 70 = .ok (.iload_n 1, 1) := by decide +kernel
theorem dX0_runBoth_71 : decode cX0_runBoth 71 = .ok (.iload 4, 2) := by decide +kernel
theorem dX0_runBoth_73 : decode cX0_runBoth 73 = .ok (.invokevirtual 53, 3) := by decide +kernel
theorem dX0_runBoth_76 : decode cX0_runBoth 76 = .ok (.pop, 1) := by decide +kernel
theorem dX0_runBoth_77 : decode cX0_runBoth 77 = .ok (.iload_n 3, 1) := by decide +kernel
theorem dX0_runBoth_78 : decode cX0_runBoth 78 = .ok (.ifCond .ne 18, 3) := by decide +kernel
theorem dX0_runBoth_81 : decode cX0_runBoth 81 = .ok (.aload_n 0, 1) := by decide +kernel
theorem dX0_runBoth_82 : decode cX0_runBoth 82 = .ok (.invokevirtual 45, 3) := by decide +kernel
theorem dX0_runBoth_85 : decode cX0_runBoth 85 = .ok (.ifCond .eq 11, 3) := by decide +kernel
theorem dX0_runBoth_88 : decode cX0_runBoth 88 = .ok (.iconst 1, 1) := by decide +kernel
theorem dX0_runBoth_89 : decode cX0_runBoth 89 = .ok (.istore_n 3, 1) := by decide +kernel
theorem dX0_runBoth_90 : decode cX0_runBoth 90 = .ok (.aload_n 0, 1) := by decide +kernel
theorem dX0_runBoth_91 : decode cX0_runBoth 91 = .ok (.iload 4, 2) := by decide +kernel
theorem dX0_runBoth_93 : decode cX0_runBoth 93 = .ok (.putfield 49, 3) := by decide +kernel
theorem dX0_runBoth_96 : decode cX0_runBoth 96 = .ok (.iinc 4 1, 3) := by decide +kernel
theorem dX0_runBoth_99 : decode cX0_runBoth 99 = .ok (.goto (-57), 3) := by decide +kernel
theorem dX0_runBoth_102 : decode cX0_runBoth 102 = .ok (.return_, 1) := by decide +kernel
def rX0_runBoth : Room := { frames := 5, cells := 0, slots := 0, locals := 125 }
theorem yk_X0_runBoth : YK yX0_runBoth cX0_runBoth 5 none 2 := ⟨xim_X0_runBoth, xse_X0_runBoth, xin_X0, xco_X0_runBoth, by decide +kernel⟩
set_option maxRecDepth 4000 in
theorem c_X0_runBoth {l : Launch} {D : va_G} {t : Nat → ClassId} {a : Nat → Nat} {I : Nat → Int32} {F : Nat → Nat → Int32} {L : Nat → Int64} {K : Cfg} (hK : CFG K I F) (hW : WFK K) (hHS : RA (kn K) (F 6) (hS K)) (hLS : RA (kn K) (F 7) (lS K)) (hn : 0 < kn K) (sd : Int32) (b : Nat) (hb : b ≤ 4096) : CT l D t yX0_runBoth cX0_runBoth 5 none rX0_runBoth 0 0 [.ref (a 4), .int sd, .int (nI b)] (WX a t I F L) (VP (fun w => ∃ (I' : Nat → Int32) (F' : Nat → Nat → Int32) (L' : Nat → Int64), w = WX a t I' F' L' ∧ (∀ q, q ≠ 7 → I' q = I q) ∧ I' 7 = mtN K sd b b ∧ (∀ q, q ≠ 8 → q ≠ 9 → F' q = F q) ∧ RA (kn K) (F' 8) (itN K sd (hS K) (-nI b) b) ∧ RA (kn K) (F' 9) (itN K sd (lS K) (-nI b) b))) := by
  refine CT.of (by decide +kernel) (by simp [lg_sl, Value.category]) (fun X C hR => ?_)
  refine xlocals (lv' := [(0, .ref (a 4)), (1, .int sd), (2, .int (nI b))]) rfl ?_
  have fn24 := hW.n24; have fm60 := hW.m60; have fk2 := hW.k2; have fu1 := hW.u1; have fu9 := hW.u9; have fv1 := hW.v1; have fv9 := hW.v9
  refine xaload_n C 0 rfl dX0_runBoth_0 ?_
  refine gX0_29 C dX0_runBoth_1 ?_
  refine gX0_37 C dX0_runBoth_4 ?_
  refine xaload_n C 0 rfl dX0_runBoth_7 ?_
  refine gX0_9 C dX0_runBoth_8 ?_
  refine xcSVN C (c_X5_copyRow 6 8 (by decide) (by decide) (by decide) (by decide)) sk_X5_copyRow (fun _ h => h.2) ⟨⟨Nat.le_of_ble_eq_true rfl, Nat.le_of_ble_eq_true rfl⟩, ⟨rfl, rfl⟩, ⟨Nat.zero_le _, Nat.zero_le _⟩⟩ rfl (Nat.le_of_ble_eq_true rfl) dX0_runBoth_11 (fun wE hE => ?_)
  obtain ⟨F1, rfl, hF1, hF1c⟩ := hE
  have hX1 : ∀ q, q ≠ 8 → F1 q = F q := fun q hq => hF1 q hq
  refine xaload_n C 0 rfl dX0_runBoth_14 ?_
  refine gX0_29 C dX0_runBoth_15 ?_
  refine gX0_44 C dX0_runBoth_18 ?_
  refine xaload_n C 0 rfl dX0_runBoth_21 ?_
  refine gX0_15 C dX0_runBoth_22 ?_
  refine xcSVN C (c_X5_copyRow 7 9 (by decide) (by decide) (by decide) (by decide)) sk_X5_copyRow (fun _ h => h.2) ⟨⟨Nat.le_of_ble_eq_true rfl, Nat.le_of_ble_eq_true rfl⟩, ⟨rfl, rfl⟩, ⟨Nat.zero_le _, Nat.zero_le _⟩⟩ rfl (Nat.le_of_ble_eq_true rfl) dX0_runBoth_25 (fun wE hE => ?_)
  obtain ⟨F2, rfl, hF2, hF2c⟩ := hE
  have hX2 : (∀ q, q ≠ 8 → q ≠ 9 → F2 q = F q) := fun q h1 h2 => by rw [hF2 q h2, hF1 q h1]
  have hK2 : CFG K I F2 := hK.of (fun _ _ => rfl) (fun q hq => hX2 q (by omega) (by omega))
  have hA8 : RA (kn K) (F2 8) (hS K) := fun p hp => by rw [hF2 8 (by decide), hF1c p (by omega)]; exact hHS p hp
  have hA9 : RA (kn K) (F2 9) (lS K) := fun p hp => by rw [hF2c p (by omega), hF1 7 (by decide)]; exact hLS p hp
  refine xaload_n C 0 rfl dX0_runBoth_28 ?_
  refine xcVR C (c_X0_areOneState hK2 hW hA8 hA9) yk_X0_areOneState 4 rfl rfl xml_X0_45 ⟨⟨Nat.le_of_ble_eq_true rfl, Nat.le_of_ble_eq_true rfl⟩, ⟨rfl, rfl⟩, ⟨Nat.zero_le _, Nat.zero_le _⟩⟩ rfl (Nat.le_of_ble_eq_true rfl) dX0_runBoth_29 ?_
  refine xtopi (y := nI (bn (metP K sd b 0))) (by rw [metP_0]) ?_
  refine xistore_n (lv' := [(3, .int (nI (bn (metP K sd b 0)))), (0, .ref (a 4)), (1, .int sd), (2, .int (nI b))]) C dX0_runBoth_32 (by decide) rfl ?_
  refine xaload_n C 1 rfl dX0_runBoth_33 ?_
  refine xiconst (v := nI 0) C dX0_runBoth_34 (by decide) ?_
  refine pX0_49 C dX0_runBoth_35 ?_
  refine xiload_n C 3 rfl dX0_runBoth_38 ?_
  refine xineg C dX0_runBoth_39 ?_
  refine xtopi (y := (-nI b + nI 0)) (by rw [nI_0]; simp) ?_
  refine xistore (lv' := [(4, .int (-nI b + nI 0)), (3, .int (nI (bn (metP K sd b 0)))), (0, .ref (a 4)), (1, .int sd), (2, .int (nI b))]) C dX0_runBoth_40 (by decide) rfl ?_
  obtain ⟨I0, eI0⟩ : ∃ z : Nat → Int32, z = va_up I 7 (nI 0) := ⟨_, rfl⟩
  refine xworld (ws' := WX a t I0 F2 L) (by rw [eI0]) ?_
  have hI0 : ∀ q, q ≠ 7 → I0 q = I q := fun q hq => by rw [eI0, va_up_ne _ _ hq]
  have hM0 : I0 7 = mtN K sd b 0 := by rw [eI0, va_up_self]; exact nI_0
  have LP42 : ∀ (fu42 : Nat) (i : Nat) (IA : Nat → Int32) (FA : Nat → Nat → Int32) (LA : Nat → Int64) (hi : i ≤ b) (hIA : ∀ q, q ≠ 7 → IA q = I q) (hMA : IA 7 = mtN K sd b i) (hXA : (∀ q, q ≠ 8 → q ≠ 9 → FA q = F q)) (hHA : RA (kn K) (FA 8) (itN K sd (hS K) (-nI b) i)) (hLA : RA (kn K) (FA 9) (itN K sd (lS K) (-nI b) i)), b - i < fu42 → XW X 0 0 (WX a t IA FA LA) [(0, .ref (a 4)), (1, .int sd), (2, .int (nI b)), (3, .int (nI (bn (metP K sd b i)))), (4, .int (-nI b + nI i))] 42 [] := by
    intro fu42
    induction fu42 with
    | zero => intro i IA FA LA hi hIA hMA hXA hHA hLA hm42; exact absurd hm42 (Nat.not_lt_zero _)
    | succ fu42 ih42 =>
      intro i IA FA LA hi hIA hMA hXA hHA hLA hm42
      have hKA : CFG K IA FA := hK.of (fun q hq => hIA q (by omega)) (fun q hq => hXA q (by omega) (by omega))
      refine xiload C 4 rfl dX0_runBoth_42 ?_
      refine xif_ge C 102 dX0_runBoth_44 (by decide) (fun h44 => ?_) (fun h44 => ?_)
      ·
        have h44 := tge hb hi h44
        rw [h44] at hMA hHA hLA
        exact xvret C hR dX0_runBoth_102 (⟨rfl, IA, FA, LA, rfl, hIA, hMA, hXA, hHA, hLA⟩)
      ·
        have h44 := tnge hb hi h44
        refine xaload_n C 0 rfl dX0_runBoth_47 ?_
        refine gX0_33 C dX0_runBoth_48 ?_
        refine xaload_n C 0 rfl dX0_runBoth_51 ?_
        refine gX0_9 C dX0_runBoth_52 ?_
        refine xiload_n C 1 rfl dX0_runBoth_55 ?_
        refine xiload C 4 rfl dX0_runBoth_56 ?_
        refine xcVE C (c_X4_changes hKA hW 8 (by omega) (by omega) hHA hn sd (-nI b + nI i)) yk_X4_changes 3 rfl rfl xml_X0_53 ⟨⟨Nat.le_of_ble_eq_true rfl, Nat.le_of_ble_eq_true rfl⟩, ⟨rfl, rfl⟩, ⟨Nat.zero_le _, Nat.zero_le _⟩⟩ rfl (Nat.le_of_ble_eq_true rfl) dX0_runBoth_58 (fun vE wE hE => ?_)
        obtain ⟨rfl, FB, LB, rfl, hFB, hHB⟩ := hE
        have hXB : (∀ q, q ≠ 8 → q ≠ 9 → FB q = F q) := fun q h1 h2 => by rw [hFB q h1]; exact hXA q h1 h2
        have hKB : CFG K IA FB := hK.of (fun q hq => hIA q (by omega)) (fun q hq => hXB q (by omega) (by omega))
        have hLB : RA (kn K) (FB 9) (itN K sd (lS K) (-nI b) i) := by rw [hFB 9 (by decide)]; exact hLA
        refine xpop C dX0_runBoth_61 rfl ?_
        refine xaload_n C 0 rfl dX0_runBoth_62 ?_
        refine gX0_33 C dX0_runBoth_63 ?_
        refine xaload_n C 0 rfl dX0_runBoth_66 ?_
        refine gX0_15 C dX0_runBoth_67 ?_
        refine xiload_n C 1 rfl dX0_runBoth_70 ?_
        refine xiload C 4 rfl dX0_runBoth_71 ?_
        refine xcVE C (c_X4_changes hKB hW 9 (by omega) (by omega) hLB hn sd (-nI b + nI i)) yk_X4_changes 3 rfl rfl xml_X0_53 ⟨⟨Nat.le_of_ble_eq_true rfl, Nat.le_of_ble_eq_true rfl⟩, ⟨rfl, rfl⟩, ⟨Nat.zero_le _, Nat.zero_le _⟩⟩ rfl (Nat.le_of_ble_eq_true rfl) dX0_runBoth_73 (fun vE wE hE => ?_)
        obtain ⟨rfl, FC, LC, rfl, hFC, hLC⟩ := hE
        have hXC : (∀ q, q ≠ 8 → q ≠ 9 → FC q = F q) := fun q h1 h2 => by rw [hFC q h2]; exact hXB q h1 h2
        have hKC : CFG K IA FC := hK.of (fun q hq => hIA q (by omega)) (fun q hq => hXC q (by omega) (by omega))
        have hHC : RA (kn K) (FC 8) (itN K sd (hS K) (-nI b) (i + 1)) := by rw [hFC 8 (by decide)]; exact hHB
        refine xpop C dX0_runBoth_76 rfl ?_
        refine xiload_n C 3 rfl dX0_runBoth_77 ?_
        refine xif_neN C 96 dX0_runBoth_78 (by decide) (bn_lt _) (fun h78 => ?_) (fun h78 => ?_)
        ·
          have hM2 : IA 7 = mtN K sd b (i + 1) := hMA.trans (mtN_keep (bn_1 h78)).symm
          refine xlocals (lv' := [(0, .ref (a 4)), (1, .int sd), (2, .int (nI b)), (3, .int (nI (bn (metP K sd b (i + 1))))), (4, .int (-nI b + nI i))]) (by rw [metP_keep (bn_1 h78)]) ?_
          refine xiinc (v := -nI b + nI i + 1) (lv' := [(4, .int (-nI b + nI i + 1)), (0, .ref (a 4)), (1, .int sd), (2, .int (nI b)), (3, .int (nI (bn (metP K sd b (i + 1)))))]) C 4 rfl dX0_runBoth_96 rfl (by decide) rfl ?_
          refine xlocals (lv' := [(4, .int (-nI b + nI (i + 1))), (0, .ref (a 4)), (1, .int sd), (2, .int (nI b)), (3, .int (nI (bn (metP K sd b (i + 1)))))]) (by rw [← nI_1, Int32.add_assoc]) ?_
          refine xgoto C 42 dX0_runBoth_99 (by decide) ?_
          refine xsub [1, 2, 3, 4, 0] rfl ?_
          exact ih42 (i + 1) IA FC LC (by omega) hIA hM2 hXC hHC hLC (by omega)
        ·
          refine xaload_n C 0 rfl dX0_runBoth_81 ?_
          refine xcVR C (c_X0_areOneState hKC hW hHC hLC) yk_X0_areOneState 4 rfl rfl xml_X0_45 ⟨⟨Nat.le_of_ble_eq_true rfl, Nat.le_of_ble_eq_true rfl⟩, ⟨rfl, rfl⟩, ⟨Nat.zero_le _, Nat.zero_le _⟩⟩ rfl (Nat.le_of_ble_eq_true rfl) dX0_runBoth_82 ?_
          refine xif_eqN C 96 dX0_runBoth_85 (by decide) (bn_lt _) (fun h85 => ?_) (fun h85 => ?_)
          ·
            have hM2 : IA 7 = mtN K sd b (i + 1) := hMA.trans (mtN_not (bn_0 h78) (bn_0 h85)).symm
            refine xlocals (lv' := [(0, .ref (a 4)), (1, .int sd), (2, .int (nI b)), (3, .int (nI (bn (metP K sd b (i + 1))))), (4, .int (-nI b + nI i))]) (by rw [metP_not (bn_0 h78) (bn_0 h85)]) ?_
            refine xiinc (v := -nI b + nI i + 1) (lv' := [(4, .int (-nI b + nI i + 1)), (0, .ref (a 4)), (1, .int sd), (2, .int (nI b)), (3, .int (nI (bn (metP K sd b (i + 1)))))]) C 4 rfl dX0_runBoth_96 rfl (by decide) rfl ?_
            refine xlocals (lv' := [(4, .int (-nI b + nI (i + 1))), (0, .ref (a 4)), (1, .int sd), (2, .int (nI b)), (3, .int (nI (bn (metP K sd b (i + 1)))))]) (by rw [← nI_1, Int32.add_assoc]) ?_
            refine xgoto C 42 dX0_runBoth_99 (by decide) ?_
            refine xsub [1, 2, 3, 4, 0] rfl ?_
            exact ih42 (i + 1) IA FC LC (by omega) hIA hM2 hXC hHC hLC (by omega)
          ·
            refine xiconst (v := nI 1) C dX0_runBoth_88 (by decide) ?_
            refine xistore_n (lv' := [(3, .int (nI 1)), (0, .ref (a 4)), (1, .int sd), (2, .int (nI b)), (4, .int (-nI b + nI i))]) C dX0_runBoth_89 (by decide) rfl ?_
            refine xaload_n C 1 rfl dX0_runBoth_90 ?_
            refine xiload C 4 rfl dX0_runBoth_91 ?_
            refine pX0_49 C dX0_runBoth_93 ?_
            obtain ⟨IB, eIB⟩ : ∃ z : Nat → Int32, z = va_up IA 7 (-nI b + nI i) := ⟨_, rfl⟩
            refine xworld (ws' := WX a t IB FC LC) (by rw [eIB]) ?_
            have hIB : ∀ q, q ≠ 7 → IB q = I q := fun q hq => by rw [eIB, va_up_ne _ _ hq]; exact hIA q hq
            have hM2 : IB 7 = mtN K sd b (i + 1) := by rw [eIB, va_up_self]; exact (mtN_now (bn_0 h78) (bn_1 h85)).symm
            refine xlocals (lv' := [(3, .int (nI (bn (metP K sd b (i + 1))))), (0, .ref (a 4)), (1, .int sd), (2, .int (nI b)), (4, .int (-nI b + nI i))]) (by rw [metP_now (bn_0 h78) (bn_1 h85)]) ?_
            refine xiinc (v := -nI b + nI i + 1) (lv' := [(4, .int (-nI b + nI i + 1)), (3, .int (nI (bn (metP K sd b (i + 1))))), (0, .ref (a 4)), (1, .int sd), (2, .int (nI b))]) C 4 rfl dX0_runBoth_96 rfl (by decide) rfl ?_
            refine xlocals (lv' := [(4, .int (-nI b + nI (i + 1))), (3, .int (nI (bn (metP K sd b (i + 1))))), (0, .ref (a 4)), (1, .int sd), (2, .int (nI b))]) (by rw [← nI_1, Int32.add_assoc]) ?_
            refine xgoto C 42 dX0_runBoth_99 (by decide) ?_
            refine xsub [2, 3, 4, 1, 0] rfl ?_
            exact ih42 (i + 1) IB FC LC (by omega) hIB hM2 hXC hHC hLC (by omega)
  refine xsub [2, 3, 4, 1, 0] rfl ?_
  exact LP42 _ 0 I0 F2 L (Nat.zero_le _) hI0 hM0 hX2 hA8 hA9 (Nat.lt_succ_self _)
theorem dX0_findsOne_0 : decode cX0_findsOne 0 = .ok (.iconst 1, 1) := by decide +kernel
theorem dX0_findsOne_1 : decode cX0_findsOne 1 = .ok (.istore_n 2, 1) := by decide +kernel
theorem dX0_findsOne_2 : decode cX0_findsOne 2 = .ok (.iload_n 2, 1) := by decide +kernel
theorem dX0_findsOne_3 : decode cX0_findsOne 3 = .ok (.sipush 4096, 3) := by decide +kernel
theorem dX0_findsOne_6 : decode cX0_findsOne 6 = .ok (.if_icmp .gt 30, 3) := by decide +kernel
theorem dX0_findsOne_9 : decode cX0_findsOne 9 = .ok (.aload_n 0, 1) := by decide +kernel
theorem dX0_findsOne_10 : decode cX0_findsOne 10 = .ok (.iload_n 1, 1) := by decide +kernel
theorem dX0_findsOne_11 : decode cX0_findsOne 11 = .ok (.iload_n 2, 1) := by decide +kernel
theorem dX0_findsOne_12 : decode cX0_findsOne 12 = .ok (.invokevirtual 64, 3) := by decide +kernel
theorem dX0_findsOne_15 : decode cX0_findsOne 15 = .ok (.aload_n 0, 1) := by decide +kernel
theorem dX0_findsOne_16 : decode cX0_findsOne 16 = .ok (.invokevirtual 45, 3) := by decide +kernel
theorem dX0_findsOne_19 : decode cX0_findsOne 19 = .ok (.ifCond .eq 10, 3) := by decide +kernel
theorem dX0_findsOne_22 : decode cX0_findsOne 22 = .ok (.aload_n 0, 1) := by decide +kernel
theorem dX0_findsOne_23 : decode cX0_findsOne 23 = .ok (.iload_n 2, 1) := by decide +kernel
theorem dX0_findsOne_24 : decode cX0_findsOne 24 = .ok (.putfield 68, 3) := by decide +kernel
theorem dX0_findsOne_27 : decode cX0_findsOne 27 = .ok (.iconst 1, 1) := by decide +kernel
theorem dX0_findsOne_28 : decode cX0_findsOne 28 = .ok (.ireturn, 1) := by decide +kernel
theorem dX0_findsOne_29 : decode cX0_findsOne 29 = .ok (.iload_n 2, 1) := by decide +kernel
theorem dX0_findsOne_30 : decode cX0_findsOne 30 = .ok (.iconst 2, 1) := by decide +kernel
theorem dX0_findsOne_31 : decode cX0_findsOne 31 = .ok (.imul, 1) := by decide +kernel
theorem dX0_findsOne_32 : decode cX0_findsOne 32 = .ok (.istore_n 2, 1) := by decide +kernel
theorem dX0_findsOne_33 : decode cX0_findsOne 33 = .ok (.goto (-31), 3) := by decide +kernel
theorem dX0_findsOne_36 : decode cX0_findsOne 36 = .ok (.iconst 0, 1) := by decide +kernel
theorem dX0_findsOne_37 : decode cX0_findsOne 37 = .ok (.ireturn, 1) := by decide +kernel
def rX0_findsOne : Room := { frames := 6, cells := 0, slots := 0, locals := 149 }
theorem yk_X0_findsOne : YK yX0_findsOne cX0_findsOne 3 (some .boolean) 1 := ⟨xim_X0_findsOne, xse_X0_findsOne, xin_X0, xco_X0_findsOne, by decide +kernel⟩
set_option maxRecDepth 4000 in
theorem c_X0_findsOne {l : Launch} {D : va_G} {t : Nat → ClassId} {a : Nat → Nat} {I : Nat → Int32} {F : Nat → Nat → Int32} {L : Nat → Int64} {K : Cfg} (hK : CFG K I F) (hW : WFK K) (hHS : RA (kn K) (F 6) (hS K)) (hLS : RA (kn K) (F 7) (lS K)) (hn : 0 < kn K) (sd : Int32) : CT l D t yX0_findsOne cX0_findsOne 3 (some .boolean) rX0_findsOne 0 0 [.ref (a 4), .int sd] (WX a t I F L) (EP (fun v w => ∃ (I' : Nat → Int32) (F' : Nat → Nat → Int32) (L' : Nat → Int64), w = WX a t I' F' L' ∧ (∀ q, q ≠ 6 → q ≠ 7 → I' q = I q) ∧ (∀ q, q ≠ 8 → q ≠ 9 → F' q = F q) ∧ ((∃ e, farN K sd = some e ∧ e ≤ 12 ∧ v = .int (nI 1) ∧ I' 6 = nI (2 ^ e) ∧ I' 7 = mtN K sd (2 ^ e) (2 ^ e) ∧ RA (kn K) (F' 9) (itN K sd (lS K) (-nI (2 ^ e)) (2 ^ e))) ∨ (farN K sd = none ∧ v = .int (nI 0))))) := by
  refine CT.of (by decide +kernel) (by simp [lg_sl, Value.category]) (fun X C hR => ?_)
  refine xlocals (lv' := [(0, .ref (a 4)), (1, .int sd)]) rfl ?_
  have fn24 := hW.n24; have fm60 := hW.m60; have fk2 := hW.k2; have fu1 := hW.u1; have fu9 := hW.u9; have fv1 := hW.v1; have fv9 := hW.v9
  refine xiconst (v := nI 1) C dX0_findsOne_0 (by decide) ?_
  refine xistore_n (lv' := [(2, .int (nI 1)), (0, .ref (a 4)), (1, .int sd)]) C dX0_findsOne_1 (by decide) rfl ?_
  have LP2 : ∀ (fu2 : Nat) (e : Nat) (b : Nat) (IA : Nat → Int32) (FA : Nat → Nat → Int32) (LA : Nat → Int64) (he : e ≤ 13) (hbe : b = 2 ^ e) (hno : ∀ x, x < e → ¬ eqN K sd (2 ^ x)) (hIA : ∀ q, q ≠ 6 → q ≠ 7 → IA q = I q) (hXA : (∀ q, q ≠ 8 → q ≠ 9 → FA q = F q)), 13 - e < fu2 → XW X 0 0 (WX a t IA FA LA) [(0, .ref (a 4)), (1, .int sd), (2, .int (nI b))] 2 [] := by
    intro fu2
    induction fu2 with
    | zero => intro e b IA FA LA he hbe hno hIA hXA hm2; exact absurd hm2 (Nat.not_lt_zero _)
    | succ fu2 ih2 =>
      intro e b IA FA LA he hbe hno hIA hXA hm2
      have hKA : CFG K IA FA := hK.of (fun q hq => hIA q (by omega) (by omega)) (fun q hq => hXA q (by omega) (by omega))
      have hbb : b ≤ 8192 := by rw [hbe]; exact (Nat.pow_le_pow_right (by decide) he : 2 ^ e ≤ 2 ^ 13)
      refine xiload_n C 2 rfl dX0_findsOne_2 ?_
      refine xsipush (v := nI 4096) C dX0_findsOne_3 (by decide) ?_
      refine xicmp_gtN C 36 dX0_findsOne_6 (by decide) (by omega) (by omega) (fun h6 => ?_) (fun h6 => ?_)
      ·
        have he13 : e = 13 := far13 he hbe h6
        refine xiconst (v := nI 0) C dX0_findsOne_36 (by decide) ?_
        exact xret C hR (by rfl) dX0_findsOne_37 (⟨_, rfl, IA, FA, LA, rfl, hIA, hXA, Or.inr ⟨far_none (by rw [← he13]; exact hno), rfl⟩⟩)
      ·
        have he12 : e ≤ 12 := far12 he hbe h6
        refine xaload_n C 0 rfl dX0_findsOne_9 ?_
        refine xiload_n C 1 rfl dX0_findsOne_10 ?_
        refine xiload_n C 2 rfl dX0_findsOne_11 ?_
        refine xcVV C (c_X0_runBoth hKA hW (by rw [hXA 6 (by decide) (by decide)]; exact hHS) (by rw [hXA 7 (by decide) (by decide)]; exact hLS) hn sd b (by omega)) yk_X0_runBoth 4 rfl rfl xml_X0_64 ⟨⟨Nat.le_of_ble_eq_true rfl, Nat.le_of_ble_eq_true rfl⟩, ⟨rfl, rfl⟩, ⟨Nat.zero_le _, Nat.zero_le _⟩⟩ rfl (Nat.le_of_ble_eq_true rfl) dX0_findsOne_12 (fun wE hE => ?_)
        obtain ⟨IB, FB, LB, rfl, hIb, hMb, hXb, hHB, hLB⟩ := hE
        have hIB : ∀ q, q ≠ 6 → q ≠ 7 → IB q = I q := fun q h1 h2 => (hIb q h2).trans (hIA q h1 h2)
        have hXB : (∀ q, q ≠ 8 → q ≠ 9 → FB q = F q) := fun q h1 h2 => (hXb q h1 h2).trans (hXA q h1 h2)
        have hKB : CFG K IB FB := hK.of (fun q hq => hIB q (by omega) (by omega)) (fun q hq => hXB q (by omega) (by omega))
        refine xaload_n C 0 rfl dX0_findsOne_15 ?_
        refine xcVR C (c_X0_areOneState hKB hW hHB hLB) yk_X0_areOneState 4 rfl rfl xml_X0_45 ⟨⟨Nat.le_of_ble_eq_true rfl, Nat.le_of_ble_eq_true rfl⟩, ⟨rfl, rfl⟩, ⟨Nat.zero_le _, Nat.zero_le _⟩⟩ rfl (Nat.le_of_ble_eq_true rfl) dX0_findsOne_16 ?_
        refine xif_eqN C 29 dX0_findsOne_19 (by decide) (bn_lt _) (fun h19 => ?_) (fun h19 => ?_)
        ·
          refine xiload_n C 2 rfl dX0_findsOne_29 ?_
          refine xiconst (v := nI 2) C dX0_findsOne_30 (by decide) ?_
          refine ximulN C dX0_findsOne_31 ?_
          refine xistore_n (lv' := [(2, .int (nI (b * 2))), (0, .ref (a 4)), (1, .int sd)]) C dX0_findsOne_32 (by decide) rfl ?_
          refine xgoto C 2 dX0_findsOne_33 (by decide) ?_
          refine xsub [1, 2, 0] rfl ?_
          exact ih2 (e + 1) (b * 2) IB FB LB (by omega) (by rw [hbe, Nat.pow_succ]) (lt_s hno (by rw [← hbe]; exact bn_0 h19)) hIB hXB (by omega)
        ·
          refine xaload_n C 0 rfl dX0_findsOne_22 ?_
          refine xiload_n C 2 rfl dX0_findsOne_23 ?_
          refine pX0_68 C dX0_findsOne_24 ?_
          refine xiconst (v := nI 1) C dX0_findsOne_27 (by decide) ?_
          obtain ⟨IC, eIC⟩ : ∃ z : Nat → Int32, z = va_up IB 6 (nI b) := ⟨_, rfl⟩
          refine xworld (ws' := WX a t IC FB LB) (by rw [eIC]) ?_
          exact xret C hR (by rfl) dX0_findsOne_28 (⟨_, rfl, IC, FB, LB, rfl, fun q h1 h2 => by rw [eIC, va_up_ne _ _ h1]; exact hIB q h1 h2, hXB, Or.inl ⟨e, far_some hno (by rw [← hbe]; exact bn_1 h19) he12, he12, rfl, by rw [eIC, va_up_self, hbe], by rw [eIC, va_up_ne _ _ (by decide), hMb, hbe], by rw [← hbe]; exact hLB⟩⟩)
  refine xsub [1, 2, 0] rfl ?_
  exact LP2 _ 0 1 I F L (by omega) rfl (fun x h => absurd h (Nat.not_lt_zero _)) (fun q _ _ => rfl) (fun q _ _ => rfl) (Nat.lt_succ_self _)
theorem dX0_keep_0 : decode cX0_keep 0 = .ok (.aload_n 0, 1) := by decide +kernel
theorem dX0_keep_1 : decode cX0_keep 1 = .ok (.getfield 15, 3) := by decide +kernel
theorem dX0_keep_4 : decode cX0_keep 4 = .ok (.aload_n 0, 1) := by decide +kernel
theorem dX0_keep_5 : decode cX0_keep 5 = .ok (.getfield 18, 3) := by decide +kernel
theorem dX0_keep_8 : decode cX0_keep 8 = .ok (.invokestatic 40, 3) := by decide +kernel
theorem dX0_keep_11 : decode cX0_keep 11 = .ok (.aload_n 0, 1) := by decide +kernel
theorem dX0_keep_12 : decode cX0_keep 12 = .ok (.aload_n 0, 1) := by decide +kernel
theorem dX0_keep_13 : decode cX0_keep 13 = .ok (.getfield 49, 3) := by decide +kernel
theorem dX0_keep_16 : decode cX0_keep 16 = .ok (.putfield 71, 3) := by decide +kernel
theorem dX0_keep_19 : decode cX0_keep 19 = .ok (.aload_n 0, 1) := by decide +kernel
theorem dX0_keep_20 : decode cX0_keep 20 = .ok (.iconst 1, 1) := by decide +kernel
theorem dX0_keep_21 : decode cX0_keep 21 = .ok (.putfield 21, 3) := by decide +kernel
theorem dX0_keep_24 : decode cX0_keep 24 = .ok (.return_, 1) := by decide +kernel
def rX0_keep : Room := { frames := 2, cells := 0, slots := 0, locals := 60 }
theorem yk_X0_keep : YK yX0_keep cX0_keep 1 none 0 := ⟨xim_X0_keep, xse_X0_keep, xin_X0, xco_X0_keep, by decide +kernel⟩
set_option maxRecDepth 4000 in
theorem c_X0_keep {l : Launch} {D : va_G} {t : Nat → ClassId} {a : Nat → Nat} {I : Nat → Int32} {F : Nat → Nat → Int32} {L : Nat → Int64}  : CT l D t yX0_keep cX0_keep 1 none rX0_keep 0 0 [.ref (a 4)] (WX a t I F L) (VP (fun w => ∃ F' : Nat → Nat → Int32, w = WX a t (va_up (va_up I 8 (I 7)) 9 (nI 1)) F' L ∧ (∀ q, q ≠ 10 → F' q = F q) ∧ ∀ p, p < 24 → F' 10 p = F 9 p)) := by
  refine CT.of (by decide +kernel) (by simp [lg_sl, Value.category]) (fun X C hR => ?_)
  refine xlocals (lv' := [(0, .ref (a 4))]) rfl ?_
  refine xaload_n C 0 rfl dX0_keep_0 ?_
  refine gX0_15 C dX0_keep_1 ?_
  refine xaload_n C 0 rfl dX0_keep_4 ?_
  refine gX0_18 C dX0_keep_5 ?_
  refine xcSVN C (c_X5_copyRow 9 10 (by decide) (by decide) (by decide) (by decide)) sk_X5_copyRow (fun _ h => h.2) ⟨⟨Nat.le_of_ble_eq_true rfl, Nat.le_of_ble_eq_true rfl⟩, ⟨rfl, rfl⟩, ⟨Nat.zero_le _, Nat.zero_le _⟩⟩ rfl (Nat.le_of_ble_eq_true rfl) dX0_keep_8 (fun wE hE => ?_)
  obtain ⟨F1, rfl, hF1, hF1c⟩ := hE
  refine xaload_n C 0 rfl dX0_keep_11 ?_
  refine xaload_n C 0 rfl dX0_keep_12 ?_
  refine gX0_49 C dX0_keep_13 ?_
  refine pX0_71 C dX0_keep_16 ?_
  refine xaload_n C 0 rfl dX0_keep_19 ?_
  refine xiconst (v := nI 1) C dX0_keep_20 (by decide) ?_
  refine pX0_21 C (by rfl) (by rfl) dX0_keep_21 ?_
  exact xvret C hR dX0_keep_24 (⟨rfl, F1, rfl, hF1, hF1c⟩)
