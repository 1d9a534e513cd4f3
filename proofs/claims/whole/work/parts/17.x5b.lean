/-! The class's calls, 2 (written by my program parts_x5b.py). -/
theorem lgZ (x y : Int64) : lg_cmp x y = if y.toInt < x.toInt then 1 else if x.toInt = y.toInt then 0 else -1 := by
  unfold lg_cmp
  have e1 : (x > y) = (y.toInt < x.toInt) := propext Int64.lt_iff_toInt_lt
  have e2 : (x = y) = (x.toInt = y.toInt) := propext Int64.toInt_inj.symm
  simp only [e1, e2]
theorem xlcmpZ_lt {X : XC} {l : Launch} {D : va_G} {t : Nat → ClassId} {cc : ByteArray} {own : String} {rm : Room} {nL : Nat} {k n : Nat} {ws : va_W} {lv : List (Nat × Value)} {pc : Nat} {st : List Value} (C : XK X l D t cc own rm nL) {x y : Int64} {off : Int} (tgt : Nat) (hd0 : decode cc pc = .ok (.lcmp, 1)) (hdg : decode cc (pc + 1) = .ok (.ifCond .lt off, 3)) (ht : ((pc + 1 : Nat) : Int) + off = (tgt : Int)) (kt : x.toInt < y.toInt → XW X k n ws lv tgt st) (kf : y.toInt ≤ x.toInt → XW X k n ws lv (pc + 4) st) : XW X k n ws lv pc (.long y :: .long x :: st) := by
  refine xlcmp C hd0 ?_
  rw [lgZ]
  refine xif_lt C tgt hdg ht (fun h => kt ?_) (fun h => kf ?_)
  · by_cases h1 : y.toInt < x.toInt
    · rw [if_pos h1] at h; exact absurd h (by decide)
    · rw [if_neg h1] at h
      by_cases h2 : x.toInt = y.toInt
      · rw [if_pos h2] at h; exact absurd h (by decide)
      · omega
  · by_cases h1 : y.toInt < x.toInt
    · omega
    · rw [if_neg h1] at h
      by_cases h2 : x.toInt = y.toInt
      · omega
      · rw [if_neg h2] at h; exact absurd (by decide) h
theorem xlcmpZ_le {X : XC} {l : Launch} {D : va_G} {t : Nat → ClassId} {cc : ByteArray} {own : String} {rm : Room} {nL : Nat} {k n : Nat} {ws : va_W} {lv : List (Nat × Value)} {pc : Nat} {st : List Value} (C : XK X l D t cc own rm nL) {x y : Int64} {off : Int} (tgt : Nat) (hd0 : decode cc pc = .ok (.lcmp, 1)) (hdg : decode cc (pc + 1) = .ok (.ifCond .le off, 3)) (ht : ((pc + 1 : Nat) : Int) + off = (tgt : Int)) (kt : x.toInt ≤ y.toInt → XW X k n ws lv tgt st) (kf : y.toInt < x.toInt → XW X k n ws lv (pc + 4) st) : XW X k n ws lv pc (.long y :: .long x :: st) := by
  refine xlcmp C hd0 ?_
  rw [lgZ]
  refine xif_le C tgt hdg ht (fun h => kt ?_) (fun h => kf ?_)
  · by_cases h1 : y.toInt < x.toInt
    · rw [if_pos h1] at h; exact absurd h (by decide)
    · omega
  · by_cases h1 : y.toInt < x.toInt
    · exact h1
    · rw [if_neg h1] at h
      by_cases h2 : x.toInt = y.toInt
      · rw [if_pos h2] at h; exact absurd (by decide) h
      · rw [if_neg h2] at h; exact absurd (by decide) h
theorem sub64 (x y : Int32) : (y.toInt64 - x.toInt64).toInt = y.toInt - x.toInt := by
  have h1 := x.toInt_lt
  have h2 := x.le_toInt
  have h3 := y.toInt_lt
  have h4 := y.le_toInt
  rw [Int64.toInt_sub, Int32.toInt_toInt64, Int32.toInt_toInt64]
  apply Int.bmod_eq_of_le <;> omega
theorem lN0 : (lN 0).toInt = 0 := by decide +kernel
theorem l20000 : (20000 : Int64).toInt = 20000 := by decide +kernel
theorem runlt {x y : Int32} (h : (y.toInt64 - x.toInt64).toInt < (lN 0).toInt) : y.toInt < x.toInt := by rw [sub64, lN0] at h; omega
theorem rungt {x y : Int32} (h : (20000 : Int64).toInt < (y.toInt64 - x.toInt64).toInt) : 20000 < y.toInt - x.toInt := by rw [sub64, l20000] at h; omega
theorem runok {x y : Int32} (h1 : (lN 0).toInt ≤ (y.toInt64 - x.toInt64).toInt) (h2 : (y.toInt64 - x.toInt64).toInt ≤ (20000 : Int64).toInt) : ¬ (y.toInt < x.toInt ∨ 20000 < y.toInt - x.toInt) := by rw [sub64, lN0] at h1; rw [sub64, l20000] at h2; omega
theorem runlen {x y : Int32} (h1 : (lN 0).toInt ≤ (y.toInt64 - x.toInt64).toInt) (h2 : (y.toInt64 - x.toInt64).toInt ≤ (20000 : Int64).toInt) : ∃ d : Nat, (y.toInt - x.toInt).toNat = d ∧ d ≤ 20000 ∧ y.toInt64 - x.toInt64 = lN d := by
  rw [sub64, lN0] at h1; rw [sub64, l20000] at h2
  refine ⟨(y.toInt - x.toInt).toNat, rfl, by omega, ?_⟩
  apply Int64.toInt_inj.mp
  rw [sub64, lN_toInt (by omega)]
  omega
theorem RX.draw {K : Cfg} {sd : Int32} {hd : Nat → Nat} {dk : Bool} {dw : Nat → Nat} {mt : Int32} {IB : Nat → Int32} {FB FC : Nat → Nat → Int32} {dw' : Nat → Nat} {mt' : Int32} (h : RX (K, sd, hd, dk, dw, mt) IB FB) (h7 : IB 7 = mt') (hL : RA (kn K) (FB 9) dw') (hF : ∀ q, q ≠ 10 → FC q = FB q) (hc : ∀ p, p < kn K → FC 10 p = FB 9 p) : RX (K, sd, hd, true, dw', mt') (va_up (va_up IB 8 (IB 7)) 9 (nI 1)) FC := by
  obtain ⟨h1, h2, h3, h4, h5, h6, h8, h9⟩ := h
  exact ⟨(h1.of (fun q hq => by rw [va_up_ne _ _ (by omega), va_up_ne _ _ (by omega)]) (fun q hq => hF q (by omega))), h2, by rw [hF 12 (by decide)]; exact h3, rfl, fun _ => ⟨fun p hp => by rw [hc p hp]; exact hL p hp, h7⟩, h6, by rw [hF 6 (by decide)]; exact h8, by rw [hF 7 (by decide)]; exact h9⟩
theorem tlN_go {K : Cfg} {y : Int32} {p i c e : Nat} (hc : tlN K y p i = some c) (hf : farN K (y + nI i) = some e) : tlN K y p (i + 1) = some (c + itN K (y + nI i) (lS K) (-nI (2 ^ e)) (2 ^ e) p) := by
  show (match tlN K y p i with | none => none | some c => match farN K (y + nI i) with | none => none | some e => some (c + itN K (y + nI i) (lS K) (-nI (2 ^ e)) (2 ^ e) p)) = _
  rw [hc, hf]
theorem tlN_fail {K : Cfg} {y : Int32} {p i c : Nat} (hc : tlN K y p i = some c) (hf : farN K (y + nI i) = none) : tlN K y p (i + 1) = none := by
  show (match tlN K y p i with | none => none | some c => match farN K (y + nI i) with | none => none | some e => some (c + itN K (y + nI i) (lS K) (-nI (2 ^ e)) (2 ^ e) p)) = _
  rw [hc, hf]
theorem tlN_none {K : Cfg} {y : Int32} {p i : Nat} (h : tlN K y p i = none) : ∀ {n : Nat}, i ≤ n → tlN K y p n = none
  | 0, hn => by obtain rfl : i = 0 := by omega
                exact h
  | n + 1, hn => by
    by_cases e : i = n + 1
    · subst e; exact h
    · show (match tlN K y p n with | none => none | some c => match farN K (y + nI n) with | none => none | some e => some (c + itN K (y + nI n) (lS K) (-nI (2 ^ e)) (2 ^ e) p)) = _
      rw [tlN_none h (show i ≤ n by omega)]
theorem nneq {c k : Nat} (hc : c < 100) (hk : k < 100) (h : c ≠ k) : ¬ nI c = nI k := fun e => h ((nI_eq (by omega) (by omega)).mp e)
theorem shN_nat {K : Cfg} {A w : Nat} (hw : w ≤ 1) : shN K A (nI w) = (if w = 0 then A else suN K 1 0 0) / Nat.gcd A (suN K 1 0 0) := by
  unfold shN
  by_cases e : w = 0
  · subst e; rw [if_pos rfl, ci_t (show nI 0 = 0 from nI_0)]
  · rw [if_neg e, ci_f (show ¬ nI w = 0 from nneq (k := 0) (by omega) (by omega) e)]
theorem sw07 (x : Int32) : x = 0 ∨ x = 1 ∨ x = 2 ∨ x = 3 ∨ x = 4 ∨ x = 5 ∨ x = 6 ∨ x = 7 ∨ (x.toInt < 0 ∨ 7 < x.toInt) := by
  rcases (show (x.toInt < 0 ∨ 7 < x.toInt) ∨ (0 ≤ x.toInt ∧ x.toInt ≤ 7) by omega) with h | ⟨h1, h2⟩
  · simp [h]
  · obtain ⟨q, _, hq, rfl⟩ := boxN (x := x) (a := 0) (b := 7) (by decide) (by decide) (fun h => by have := Int32.lt_iff_toInt_lt.mp h; rw [nI_toInt (by omega)] at this; omega) (fun h => by have := Int32.lt_iff_toInt_lt.mp h; rw [nI_toInt (by omega)] at this; omega)
    rcases (show q = 0 ∨ q = 1 ∨ q = 2 ∨ q = 3 ∨ q = 4 ∨ q = 5 ∨ q = 6 ∨ q = 7 by omega) with rfl | rfl | rfl | rfl | rfl | rfl | rfl | rfl <;> decide +kernel
theorem sw03 (x : Int32) : x = 0 ∨ x = 1 ∨ x = 2 ∨ x = 3 ∨ (x.toInt < 0 ∨ 3 < x.toInt) := by
  rcases (show (x.toInt < 0 ∨ 3 < x.toInt) ∨ (0 ≤ x.toInt ∧ x.toInt ≤ 3) by omega) with h | ⟨h1, h2⟩
  · simp [h]
  · obtain ⟨q, _, hq, rfl⟩ := boxN (x := x) (a := 0) (b := 3) (by decide) (by decide) (fun h => by have := Int32.lt_iff_toInt_lt.mp h; rw [nI_toInt (by omega)] at this; omega) (fun h => by have := Int32.lt_iff_toInt_lt.mp h; rw [nI_toInt (by omega)] at this; omega)
    rcases (show q = 0 ∨ q = 1 ∨ q = 2 ∨ q = 3 by omega) with rfl | rfl | rfl | rfl <;> decide +kernel
theorem lt16 {y : Int32} (h : y < 16) : ¬ nI 15 < y := by
  intro q
  have h1 := Int32.lt_iff_toInt_lt.mp h
  have h2 := Int32.lt_iff_toInt_lt.mp q
  rw [nI_toInt (by omega)] at h2
  have h3 : (16 : Int32).toInt = 16 := by decide +kernel
  omega
theorem ge16 {y : Int32} (h : ¬ y < 16) : 15 < y := by
  apply Int32.lt_iff_toInt_lt.mpr
  have h1 := Int32.le_iff_toInt_le.mp (Int32.not_lt.mp h)
  have h3 : (16 : Int32).toInt = 16 := by decide +kernel
  have h4 : (15 : Int32).toInt = 15 := by decide +kernel
  omega
theorem not1015 {c : Nat} (h1 : 10 ≤ c) (h2 : c ≤ 15) : ¬ (nI c < 10 ∨ 15 < nI c) := by
  rcases (show c = 10 ∨ c = 11 ∨ c = 12 ∨ c = 13 ∨ c = 14 ∨ c = 15 by omega) with rfl | rfl | rfl | rfl | rfl | rfl <;> decide +kernel
/-- every state of a small system is gone through -/
def enc (K : Cfg) (f : Nat → Nat) : Nat → Nat
  | 0 => 0
  | q + 1 => enc K f q + f q * pr (gN K) q
theorem enc_lt {K : Cfg} {f : Nat → Nat} : ∀ {q : Nat}, (∀ p, p < q → f p ≤ mostN K p) → enc K f q < pr (gN K) q
  | 0, _ => Nat.one_pos
  | q + 1, h => by
    show enc K f q + f q * pr (gN K) q < pr (gN K) q * gN K q
    have h1 := enc_lt (q := q) (fun p hp => h p (by omega))
    have h2 := Nat.mul_le_mul (h q (by omega)) (Nat.le_refl (pr (gN K) q))
    have h3 : pr (gN K) q * gN K q = mostN K q * pr (gN K) q + pr (gN K) q := by
      show pr (gN K) q * (mostN K q + 1) = _
      rw [Nat.mul_add, Nat.mul_one, Nat.mul_comm]
    omega
theorem enc_dg {K : Cfg} {f : Nat → Nat} : ∀ {q : Nat}, (∀ p, p < q → f p ≤ mostN K p) → ∀ p, p < q → dgN K (enc K f q) p = f p
  | 0, _, p, hp => by omega
  | q + 1, h, p, hp => by
    have h1 := enc_lt (q := q) (fun p hp => h p (by omega))
    unfold dgN
    show (enc K f q + f q * pr (gN K) q) / pr (gN K) p % gN K p = f p
    by_cases e : p = q
    · subst e
      rw [Nat.add_mul_div_right _ _ (pr_pos (gN_pos K) p), Nat.div_eq_of_lt h1, Nat.zero_add]
      exact Nat.mod_eq_of_lt (by have := h p (by omega); show f p < mostN K p + 1; omega)
    · obtain ⟨c, hc⟩ := pr_split1 (gN K) (show p < q by omega)
      have e2 : f q * pr (gN K) q = (f q * c * gN K p) * pr (gN K) p := by rw [hc]; simp only [Nat.mul_comm, Nat.mul_left_comm, Nat.mul_assoc]
      rw [e2, Nat.add_mul_div_right _ _ (pr_pos (gN_pos K) p), Nat.add_mul_mod_self_right]
      exact enc_dg (fun p hp => h p (by omega)) p (by omega)
theorem woN_congr {K : Cfg} (hW : WFK K) {f g : Nat → Nat} (h : ∀ p, p < kn K → f p = g p) : woN K f = woN K g := by
  unfold woN
  rw [pr_congr (fun p hp => by rw [h p hp]), pr_congr (k := km K) (g := fun k => lwN K (f (kla K k)) (f (klb K k))) (g' := fun k => lwN K (g (kla K k)) (g (klb K k))) (fun k hk => by rw [h _ (hW.la hk), h _ (hW.lb hk)])]
theorem pr_zero {g : Nat → Nat} : ∀ {k : Nat}, pr g k ≠ 0 ↔ ∀ j, j < k → g j ≠ 0
  | 0 => ⟨fun _ j hj => by omega, fun _ => Nat.one_ne_zero⟩
  | k + 1 => by
    show pr g k * g k ≠ 0 ↔ _
    constructor
    · intro h j hj e
      by_cases ej : j = k
      · subst ej; exact h (by rw [e, Nat.mul_zero])
      · exact (pr_zero (k := k)).mp (fun q => h (by rw [q, Nat.zero_mul])) j (by omega) e
    · intro h q
      rcases Nat.mul_eq_zero.mp q with q | q
      · exact (pr_zero (k := k)).mpr (fun j hj => h j (by omega)) q
      · exact h k (by omega) q
theorem woN_al {K : Cfg} {f : Nat → Nat} : woN K f ≠ 0 ↔ alP K f := by
  unfold woN alP
  rw [← pr_zero (g := fun p => pwN K p (f p)), ← pr_zero (g := fun k => lwN K (f (kla K k)) (f (klb K k)))]
  constructor
  · intro h
    exact ⟨fun q => h (by rw [q, Nat.zero_mul]), fun q => h (by rw [q, Nat.mul_zero])⟩
  · intro ⟨h1, h2⟩ q
    rcases Nat.mul_eq_zero.mp q with q | q
    · exact h1 q
    · exact h2 q
theorem sm_pos {g : Nat → Nat} : ∀ {k i : Nat}, i < k → 0 < g i → 0 < sm g k
  | 0, i, h, _ => by omega
  | k + 1, i, h, hp => by
    show 0 < sm g k + g k
    by_cases e : i = k
    · subst e; omega
    · have := sm_pos (show i < k by omega) hp; omega
theorem al_most {K : Cfg} {f : Nat → Nat} (h : alP K f) {p : Nat} (hp : p < kn K) : f p ≤ mostN K p := by
  rcases Nat.lt_or_ge (mostN K p) (f p) with q | q
  · exact absurd (by unfold pwN; rw [if_pos (Or.inl q)]) (h.1 p hp)
  · exact q
theorem suN_pos {K : Cfg} {hd : Nat → Nat} (hW : WFK K) (hg : GoodP K) (h : alP K hd) : 0 < suN K 1 0 0 := by
  have hm : ∀ p, p < kn K → hd p ≤ mostN K p := fun p hp => al_most h hp
  refine sm_pos (i := enc K hd (kn K)) (enc_lt hm) ?_
  show 0 < woN K (dgN K (enc K hd (kn K)))
  rw [woN_congr hW (enc_dg hm)]
  have := woN_al.mpr h
  omega
theorem dX5_tick_0 : decode cX5_tick 0 = .ok (.iload_n 2, 1) := by decide +kernel
theorem dX5_tick_1 : decode cX5_tick 1 = .ok (.ifCond .lt 8, 3) := by decide +kernel
theorem dX5_tick_4 : decode cX5_tick 4 = .ok (.iload_n 2, 1) := by decide +kernel
theorem dX5_tick_5 : decode cX5_tick 5 = .ok (.iconst 1, 1) := by decide +kernel
theorem dX5_tick_6 : decode cX5_tick 6 = .ok (.if_icmp .le 6, 3) := by decide +kernel
theorem dX5_tick_9 : decode cX5_tick 9 = .ok (.bipush (-2), 2) := by decide +kernel
theorem dX5_tick_11 : decode cX5_tick 11 = .ok (.ireturn, 1) := by decide +kernel
theorem dX5_tick_12 : decode cX5_tick 12 = .ok (.aload_n 0, 1) := by decide +kernel
theorem dX5_tick_13 : decode cX5_tick 13 = .ok (.getfield 10, 3) := by decide +kernel
theorem dX5_tick_16 : decode cX5_tick 16 = .ok (.getfield 58, 3) := by decide +kernel
theorem dX5_tick_19 : decode cX5_tick 19 = .ok (.ifCond .ne 6, 3) := by decide +kernel
theorem dX5_tick_22 : decode cX5_tick 22 = .ok (.bipush (-3), 2) := by decide +kernel
theorem dX5_tick_24 : decode cX5_tick 24 = .ok (.ireturn, 1) := by decide +kernel
theorem dX5_tick_25 : decode cX5_tick 25 = .ok (.aload_n 0, 1) := by decide +kernel
theorem dX5_tick_26 : decode cX5_tick 26 = .ok (.getfield 54, 3) := by decide +kernel
theorem dX5_tick_29 : decode cX5_tick 29 = .ok (.iload_n 1, 1) := by decide +kernel
theorem dX5_tick_30 : decode cX5_tick 30 = .ok (.invokestatic 125, 3) := by decide +kernel
theorem dX5_tick_33 : decode cX5_tick 33 = .ok (.istore_n 3, 1) := by decide +kernel
theorem dX5_tick_34 : decode cX5_tick 34 = .ok (.iload_n 2, 1) := by decide +kernel
theorem dX5_tick_35 : decode cX5_tick 35 = .ok (.ifCond .ne 14, 3) := by decide +kernel
theorem dX5_tick_38 : decode cX5_tick 38 = .ok (.aload_n 0, 1) := by decide +kernel
theorem dX5_tick_39 : decode cX5_tick 39 = .ok (.getfield 30, 3) := by decide +kernel
theorem dX5_tick_42 : decode cX5_tick 42 = .ok (.iload_n 3, 1) := by decide +kernel
theorem dX5_tick_43 : decode cX5_tick 43 = .ok (.invokevirtual 128, 3) := by decide +kernel
theorem dX5_tick_46 : decode cX5_tick 46 = .ok (.goto 7, 3) := by decide +kernel
theorem dX5_tick_49 : decode cX5_tick 49 = .ok (.iload_n 3, 1) := by decide +kernel
theorem dX5_tick_50 : decode cX5_tick 50 = .ok (.invokestatic 132, 3) := by decide +kernel
theorem dX5_tick_53 : decode cX5_tick 53 = .ok (.ireturn, 1) := by decide +kernel
def rX5_tick : Room := { frames := 1, cells := 0, slots := 0, locals := 22 }
theorem yk_X5_tick : YK yX5_tick cX5_tick 4 (some .int) 2 := ⟨xim_X5_tick, xse_X5_tick, xin_X5, xco_X5_tick, by decide +kernel⟩
set_option maxRecDepth 4000 in
theorem c_X5_tick {l : Launch} {D : va_G} {t : Nat → ClassId} {a : Nat → Nat} {I : Nat → Int32} {F : Nat → Nat → Int32} {L : Nat → Int64} {K : Cfg} {sd : Int32} {hd : Nat → Nat} {dk : Bool} {dw : Nat → Nat} {mt : Int32} (hI : INV (K, sd, hd, dk, dw, mt)) (hX : RX (K, sd, hd, dk, dw, mt) I F) (x y : Int32) : CT l D t yX5_tick cX5_tick 4 (some .int) rX5_tick 0 0 [.ref (a 0), .int x, .int y] (WX a t I F L) (XO a t (opTick (K, sd, hd, dk, dw, mt) x y)) := by
  refine CT.of (by decide +kernel) (by simp [lg_sl, Value.category]) (fun X C hR => ?_)
  refine xlocals (lv' := [(0, .ref (a 0)), (1, .int x), (2, .int y)]) rfl ?_
  obtain ⟨hK, hsd, hHd, hdk, hdr, hgd, hHS, hLS⟩ := id hX
  have hW : WFK K := hI.1
  have hrg := hI.2.1
  have fn24 := hW.n24; have fm60 := hW.m60; have fk2 := hW.k2; have fu1 := hW.u1; have fu9 := hW.u9; have fv1 := hW.v1; have fv9 := hW.v9
  refine xiload_n C 2 rfl dX5_tick_0 ?_
  refine xif_lt C 9 dX5_tick_1 (by decide) (fun h1 => ?_) (fun h1 => ?_)
  ·
    refine xbipush (v := -2) C dX5_tick_9 (by decide) ?_
    exact xret C hR (rfl) dX5_tick_11 (XO.mk (by simp only [opTick]; rw [ci_t (Or.inl h1)]) hX)
  ·
    refine xiload_n C 2 rfl dX5_tick_4 ?_
    refine xiconst (v := 1) C dX5_tick_5 (by decide) ?_
    refine xicmp_le C 12 dX5_tick_6 (by decide) (fun h6 => ?_) (fun h6 => ?_)
    ·
      refine xaload_n C 0 rfl dX5_tick_12 ?_
      refine gX5_10 C dX5_tick_13 ?_
      refine gX5_58K C hK dX5_tick_16 ?_
      refine xif_neN C 25 dX5_tick_19 (by decide) (by omega) (fun h19 => ?_) (fun h19 => ?_)
      ·
        have hn : 0 < kn K := by omega
        refine xaload_n C 0 rfl dX5_tick_25 ?_
        refine gX5_54 C dX5_tick_26 ?_
        refine xtopi (y := sd) (hsd) ?_
        refine xiload_n C 1 rfl dX5_tick_29 ?_
        refine xcSR C (c_X4_mixed sd x) sk_X4_mixed xml_X5_125 ⟨⟨Nat.le_of_ble_eq_true rfl, Nat.le_of_ble_eq_true rfl⟩, ⟨rfl, rfl⟩, ⟨Nat.zero_le _, Nat.zero_le _⟩⟩ rfl (Nat.le_of_ble_eq_true rfl) dX5_tick_30 ?_
        refine xistore_n (lv' := [(3, .int (mixI sd x)), (0, .ref (a 0)), (1, .int x), (2, .int y)]) C dX5_tick_33 (by decide) rfl ?_
        refine xiload_n C 3 rfl dX5_tick_34 ?_
        refine xif_ne C 49 dX5_tick_35 (by decide) (fun h35 => ?_) (fun h35 => ?_)
        ·
          refine xiload_n C 0 rfl dX5_tick_49 ?_
          refine xcSR C (c_X4_lotOf (mixI sd x)) sk_X4_lotOf xml_X5_132 ⟨⟨Nat.le_of_ble_eq_true rfl, Nat.le_of_ble_eq_true rfl⟩, ⟨rfl, rfl⟩, ⟨Nat.zero_le _, Nat.zero_le _⟩⟩ rfl (Nat.le_of_ble_eq_true rfl) dX5_tick_50 ?_
          have fl50 := lotN_lt (mixI sd x)
          exact xret C hR (rfl) dX5_tick_53 (XO.mk (by simp only [opTick]; rw [ci_f (fun q => q.elim h1 (fun q => absurd q (Int32.not_lt.mpr h6))), ci_f h19, ci_f h35]) hX)
        ·
          refine xaload_n C 1 rfl dX5_tick_38 ?_
          refine gX5_30 C dX5_tick_39 ?_
          refine xiload_n C 0 rfl dX5_tick_42 ?_
          refine xcVR C (c_X4_placeOf hK hW hn (mixI sd x)) yk_X4_placeOf 3 rfl rfl xml_X5_128 ⟨⟨Nat.le_of_ble_eq_true rfl, Nat.le_of_ble_eq_true rfl⟩, ⟨rfl, rfl⟩, ⟨Nat.zero_le _, Nat.zero_le _⟩⟩ rfl (Nat.le_of_ble_eq_true rfl) dX5_tick_43 ?_
          have fp43 : plN K (mixI sd x) < kn K := Nat.mod_lt _ hn
          refine xgoto C 53 dX5_tick_46 (by decide) ?_
          exact xret C hR (rfl) dX5_tick_53 (XO.mk (by simp only [opTick]; rw [ci_f (fun q => q.elim h1 (fun q => absurd q (Int32.not_lt.mpr h6))), ci_f h19, ci_t h35]) hX)
      ·
        refine xbipush (v := -3) C dX5_tick_22 (by decide) ?_
        exact xret C hR (rfl) dX5_tick_24 (XO.mk (by simp only [opTick]; rw [ci_f (fun q => q.elim h1 (fun q => absurd q (Int32.not_lt.mpr h6))), ci_t h19]) hX)
    ·
      refine xbipush (v := -2) C dX5_tick_9 (by decide) ?_
      exact xret C hR (rfl) dX5_tick_11 (XO.mk (by simp only [opTick]; rw [ci_t (Or.inr (Int32.not_le.mp h6))]) hX)
theorem dX5_run_0 : decode cX5_run 0 = .ok (.iload_n 2, 1) := by decide +kernel
theorem dX5_run_1 : decode cX5_run 1 = .ok (.i2l, 1) := by decide +kernel
theorem dX5_run_2 : decode cX5_run 2 = .ok (.iload_n 1, 1) := by decide +kernel
theorem dX5_run_3 : decode cX5_run 3 = .ok (.i2l, 1) := by decide +kernel
theorem dX5_run_4 : decode cX5_run 4 = .ok (.lsub, 1) := by decide +kernel
theorem dX5_run_5 : decode cX5_run 5 = .ok (.lstore_n 3, 1) := by decide +kernel
theorem dX5_run_6 : decode cX5_run 6 = .ok (.lload_n 3, 1) := by decide +kernel
theorem dX5_run_7 : decode cX5_run 7 = .ok (.lconst 0, 1) := by decide +kernel
theorem dX5_run_8 : decode cX5_run 8 = .ok (.lcmp, 1) := by decide +kernel
theorem dX5_run_9 : decode cX5_run 9 = .ok (.ifCond .lt 11, 3) := by decide +kernel
theorem dX5_run_12 : decode cX5_run 12 = .ok (.lload_n 3, 1) := by decide +kernel
theorem dX5_run_13 : decode cX5_run 13 = .ok (.ldc2_w 135, 3) := by decide +kernel
theorem dX5_run_16 : decode cX5_run 16 = .ok (.lcmp, 1) := by decide +kernel
theorem dX5_run_17 : decode cX5_run 17 = .ok (.ifCond .le 6, 3) := by decide +kernel
theorem dX5_run_20 : decode cX5_run 20 = .ok (.bipush (-2), 2) := by decide +kernel
theorem dX5_run_22 : decode cX5_run 22 = .ok (.ireturn, 1) := by decide +kernel
theorem dX5_run_23 : decode cX5_run 23 = .ok (.aload_n 0, 1) := by decide +kernel
theorem dX5_run_24 : decode cX5_run 24 = .ok (.getfield 21, 3) := by decide +kernel
theorem dX5_run_27 : decode cX5_run 27 = .ok (.getfield 101, 3) := by decide +kernel
theorem dX5_run_30 : decode cX5_run 30 = .ok (.ifCond .ne 6, 3) := by decide +kernel
theorem dX5_run_33 : decode cX5_run 33 = .ok (.bipush (-5), 2) := by decide +kernel
theorem dX5_run_35 : decode cX5_run 35 = .ok (.ireturn, 1) := by decide +kernel
theorem dX5_run_36 : decode cX5_run 36 = .ok (.iconst 0, 1) := by decide +kernel
theorem dX5_run_37 : decode cX5_run 37 = .ok (.istore 5, 2) := by decide +kernel
theorem dX5_run_39 : decode cX5_run 39 = .ok (.iconst 0, 1) := by decide +kernel
theorem dX5_run_40 : decode cX5_run 40 = .ok (.istore 6, 2) := by decide +kernel
theorem dX5_run_42 : decode cX5_run 42 = .ok (.iload 6, 2) := by decide +kernel
theorem dX5_run_44 : decode cX5_run 44 = .ok (.i2l, 1) := by decide +kernel
theorem dX5_run_45 : decode cX5_run 45 = .ok (.lload_n 3, 1) := by decide +kernel
theorem dX5_run_46 : decode cX5_run 46 = .ok (.lcmp, 1) := by decide +kernel
theorem dX5_run_47 : decode cX5_run 47 = .ok (.ifCond .ge 34, 3) := by decide +kernel
theorem dX5_run_50 : decode cX5_run 50 = .ok (.aload_n 0, 1) := by decide +kernel
theorem dX5_run_51 : decode cX5_run 51 = .ok (.getfield 30, 3) := by decide +kernel
theorem dX5_run_54 : decode cX5_run 54 = .ok (.aload_n 0, 1) := by decide +kernel
theorem dX5_run_55 : decode cX5_run 55 = .ok (.getfield 50, 3) := by decide +kernel
theorem dX5_run_58 : decode cX5_run 58 = .ok (.aload_n 0, 1) := by decide +kernel
theorem dX5_run_59 : decode cX5_run 59 = .ok (.getfield 54, 3) := by decide +kernel
theorem dX5_run_62 : decode cX5_run 62 = .ok (.iload_n 1, 1) := by decide +kernel
theorem dX5_run_63 : decode cX5_run 63 = .ok (.iload 6, 2) := by decide +kernel
theorem dX5_run_65 : decode cX5_run 65 = .ok (.iadd, 1) := by decide +kernel
theorem dX5_run_66 : decode cX5_run 66 = .ok (.invokevirtual 137, 3) := by decide +kernel
theorem dX5_run_69 : decode cX5_run 69 = .ok (.ifCond .eq 6, 3) := by decide +kernel
theorem dX5_run_72 : decode cX5_run 72 = .ok (.iinc 5 1, 3) := by decide +kernel
theorem dX5_run_75 : decode cX5_run 75 = .ok (.iinc 6 1, 3) := by decide +kernel
theorem dX5_run_78 : decode cX5_run 78 = .ok (.goto (-36), 3) := by decide +kernel
theorem dX5_run_81 : decode cX5_run 81 = .ok (.iload 5, 2) := by decide +kernel
theorem dX5_run_83 : decode cX5_run 83 = .ok (.ireturn, 1) := by decide +kernel
def rX5_run : Room := { frames := 5, cells := 0, slots := 0, locals := 125 }
theorem yk_X5_run : YK yX5_run cX5_run 7 (some .int) 2 := ⟨xim_X5_run, xse_X5_run, xin_X5, xco_X5_run, by decide +kernel⟩
set_option maxRecDepth 4000 in
theorem c_X5_run {l : Launch} {D : va_G} {t : Nat → ClassId} {a : Nat → Nat} {I : Nat → Int32} {F : Nat → Nat → Int32} {L : Nat → Int64} {K : Cfg} {sd : Int32} {hd : Nat → Nat} {dk : Bool} {dw : Nat → Nat} {mt : Int32} (hI : INV (K, sd, hd, dk, dw, mt)) (hX : RX (K, sd, hd, dk, dw, mt) I F) (x y : Int32) : CT l D t yX5_run cX5_run 7 (some .int) rX5_run 0 0 [.ref (a 0), .int x, .int y] (WX a t I F L) (XO a t (opRun (K, sd, hd, dk, dw, mt) x y)) := by
  refine CT.of (by decide +kernel) (by simp [lg_sl, Value.category]) (fun X C hR => ?_)
  refine xlocals (lv' := [(0, .ref (a 0)), (1, .int x), (2, .int y)]) rfl ?_
  obtain ⟨hK, hsd, hHd, hdk, hdr, hgd, hHS, hLS⟩ := id hX
  have hW : WFK K := hI.1
  have hrg := hI.2.1
  have fn24 := hW.n24; have fm60 := hW.m60; have fk2 := hW.k2; have fu1 := hW.u1; have fu9 := hW.u9; have fv1 := hW.v1; have fv9 := hW.v9
  refine xiload_n C 2 rfl dX5_run_0 ?_
  refine xi2l C dX5_run_1 ?_
  refine xiload_n C 1 rfl dX5_run_2 ?_
  refine xi2l C dX5_run_3 ?_
  refine xlsub C dX5_run_4 ?_
  refine xlstore_n (lv' := [(3, .long (y.toInt64 - x.toInt64)), (0, .ref (a 0)), (1, .int x), (2, .int y)]) C dX5_run_5 (by decide) rfl ?_
  refine xlload_n C 0 rfl dX5_run_6 ?_
  refine xlconst (v := lN 0) C dX5_run_7 (by decide) ?_
  refine xlcmpZ_lt C 20 dX5_run_8 dX5_run_9 (by decide) (fun h8 => ?_) (fun h8 => ?_)
  ·
    refine xbipush (v := -2) C dX5_run_20 (by decide) ?_
    exact xret C hR (rfl) dX5_run_22 (XO.mk (by simp only [opRun]; rw [ci_t (Or.inl (runlt h8))]) hX)
  ·
    refine xlload_n C 0 rfl dX5_run_12 ?_
    refine xldc2 C dX5_run_13 xcn_X5_135 ?_
    refine xlcmpZ_le C 23 dX5_run_16 dX5_run_17 (by decide) (fun h16 => ?_) (fun h16 => ?_)
    ·
      refine xaload_n C 1 rfl dX5_run_23 ?_
      refine gX5_21 C dX5_run_24 ?_
      refine gX5_101 C dX5_run_27 ?_
      refine xtopi (y := nI (bn (GoodP K))) (hgd) ?_
      refine xif_neN C 36 dX5_run_30 (by decide) (bn_lt _) (fun h30 => ?_) (fun h30 => ?_)
      ·
        have hn : 0 < kn K := (bn_1 h30).1
        obtain ⟨d, hd0, hd2, hd3⟩ := runlen h8 h16
        refine xlocals (lv' := [(3, .long (lN d)), (0, .ref (a 0)), (1, .int x), (2, .int y)]) (by rw [hd3]) ?_
        refine xiconst (v := nI 0) C dX5_run_36 (by decide) ?_
        refine xistore (lv' := [(5, .int (nI 0)), (3, .long (lN d)), (0, .ref (a 0)), (1, .int x), (2, .int y)]) C dX5_run_37 (by decide) rfl ?_
        refine xiconst (v := nI 0) C dX5_run_39 (by decide) ?_
        refine xistore (lv' := [(6, .int (nI 0)), (5, .int (nI 0)), (3, .long (lN d)), (0, .ref (a 0)), (1, .int x), (2, .int y)]) C dX5_run_40 (by decide) rfl ?_
        have LP42 : ∀ (fu42 : Nat) (i : Nat) (FA : Nat → Nat → Int32) (LA : Nat → Int64) (hi : i ≤ d) (hXA : (∀ q, q ≠ 12 → FA q = F q)) (hHA : RA (kn K) (FA 12) (itN K sd hd x  i)), d - i < fu42 → XW X 0 0 (WX a t I FA LA) [(0, .ref (a 0)), (1, .int x), (2, .int y), (3, .long (lN d)), (5, .int (nI (rcN K sd hd x i))), (6, .int (nI i))] 42 [] := by
          intro fu42
          induction fu42 with
          | zero => intro i FA LA hi hXA hHA hm42; exact absurd hm42 (Nat.not_lt_zero _)
          | succ fu42 ih42 =>
            intro i FA LA hi hXA hHA hm42
            have hKA : CFG K I FA := hK.of (fun _ _ => rfl) (fun q hq => hXA q (by omega))
            have hbc := bn_le (chgP K sd (itN K sd hd x i) (x + nI i))
            refine xiload C 5 rfl dX5_run_42 ?_
            refine xi2lN C (by omega) dX5_run_44 ?_
            refine xlload_n C 3 rfl dX5_run_45 ?_
            refine xlcmp_ge C 81 dX5_run_46 dX5_run_47 (by decide) (by omega) (by omega) (fun h46 => ?_) (fun h46 => ?_)
            ·
              have ei : i = d := by omega
              subst ei
              refine xiload C 4 rfl dX5_run_81 ?_
              exact xret C hR (rfl) dX5_run_83 (XO.mk (by simp only [opRun]; rw [ci_f (runok h8 h16), ci_f (fun q => q (bn_1 h30)), hd0]) (hX.hnd hXA hHA))
            ·
              refine xaload_n C 0 rfl dX5_run_50 ?_
              refine gX5_30 C dX5_run_51 ?_
              refine xaload_n C 0 rfl dX5_run_54 ?_
              refine gX5_50 C dX5_run_55 ?_
              refine xaload_n C 0 rfl dX5_run_58 ?_
              refine gX5_54 C dX5_run_59 ?_
              refine xtopi (y := sd) (hsd) ?_
              refine xiload_n C 1 rfl dX5_run_62 ?_
              refine xiload C 5 rfl dX5_run_63 ?_
              refine xiadd C dX5_run_65 ?_
              refine xcVE C (c_X4_changes hKA hW 12 (by omega) (by omega) hHA hn sd (x + (nI i))) yk_X4_changes 3 rfl rfl xml_X5_137 ⟨⟨Nat.le_of_ble_eq_true rfl, Nat.le_of_ble_eq_true rfl⟩, ⟨rfl, rfl⟩, ⟨Nat.zero_le _, Nat.zero_le _⟩⟩ rfl (Nat.le_of_ble_eq_true rfl) dX5_run_66 (fun vE wE hE => ?_)
              obtain ⟨rfl, FB, LB, rfl, hFB, hHB⟩ := hE
              refine xif_eqN C 75 dX5_run_69 (by decide) (bn_lt _) (fun h69 => ?_) (fun h69 => ?_)
              ·
                refine xlocals (lv' := [(0, .ref (a 0)), (1, .int x), (2, .int y), (3, .long (lN d)), (5, .int (nI (rcN K sd hd x (i + 1)))), (6, .int (nI i))]) (by rw [show rcN K sd hd x (i + 1) = rcN K sd hd x i + bn (chgP K sd (itN K sd hd x i) (x + nI i)) from rfl, h69, Nat.add_zero]) ?_
                refine xiincN (lv' := [(6, .int (nI (i + 1))), (0, .ref (a 0)), (1, .int x), (2, .int y), (3, .long (lN d)), (5, .int (nI (rcN K sd hd x (i + 1))))]) C 5 rfl dX5_run_75 (by decide) rfl ?_
                refine xgoto C 42 dX5_run_78 (by decide) ?_
                refine xsub [1, 2, 3, 4, 5, 0] rfl ?_
                exact ih42 (i + 1) FB LB (by omega) (fun q hq => (hFB q hq).trans (hXA q hq)) hHB (by omega)
              ·
                refine xiincN (lv' := [(5, .int (nI (rcN K sd hd x i + 1))), (0, .ref (a 0)), (1, .int x), (2, .int y), (3, .long (lN d)), (6, .int (nI i))]) C 4 rfl dX5_run_72 (by decide) rfl ?_
                refine xlocals (lv' := [(5, .int (nI (rcN K sd hd x (i + 1)))), (0, .ref (a 0)), (1, .int x), (2, .int y), (3, .long (lN d)), (6, .int (nI i))]) (by rw [show rcN K sd hd x (i + 1) = rcN K sd hd x i + bn (chgP K sd (itN K sd hd x i) (x + nI i)) from rfl, bn_t (bn_1 h69)]) ?_
                refine xiincN (lv' := [(6, .int (nI (i + 1))), (5, .int (nI (rcN K sd hd x (i + 1)))), (0, .ref (a 0)), (1, .int x), (2, .int y), (3, .long (lN d))]) C 5 rfl dX5_run_75 (by decide) rfl ?_
                refine xgoto C 42 dX5_run_78 (by decide) ?_
                refine xsub [2, 3, 4, 5, 1, 0] rfl ?_
                exact ih42 (i + 1) FB LB (by omega) (fun q hq => (hFB q hq).trans (hXA q hq)) hHB (by omega)
        refine xsub [3, 4, 5, 2, 1, 0] rfl ?_
        exact LP42 _ 0 F L (Nat.zero_le _) (fun _ _ => rfl) hHd (Nat.lt_succ_self _)
      ·
        refine xbipush (v := -5) C dX5_run_33 (by decide) ?_
        exact xret C hR (rfl) dX5_run_35 (XO.mk (by simp only [opRun]; rw [ci_f (runok h8 h16), ci_t (bn_0 h30)]) hX)
    ·
      refine xbipush (v := -2) C dX5_run_20 (by decide) ?_
      exact xret C hR (rfl) dX5_run_22 (XO.mk (by simp only [opRun]; rw [ci_t (Or.inr (rungt h16))]) hX)
theorem dX5_gap_0 : decode cX5_gap 0 = .ok (.iload_n 1, 1) := by decide +kernel
theorem dX5_gap_1 : decode cX5_gap 1 = .ok (.ifCond .lt 10, 3) := by decide +kernel
theorem dX5_gap_4 : decode cX5_gap 4 = .ok (.iload_n 1, 1) := by decide +kernel
theorem dX5_gap_5 : decode cX5_gap 5 = .ok (.sipush 4096, 3) := by decide +kernel
theorem dX5_gap_8 : decode cX5_gap 8 = .ok (.if_icmp .le 6, 3) := by decide +kernel
theorem dX5_gap_11 : decode cX5_gap 11 = .ok (.bipush (-2), 2) := by decide +kernel
theorem dX5_gap_13 : decode cX5_gap 13 = .ok (.ireturn, 1) := by decide +kernel
theorem dX5_gap_14 : decode cX5_gap 14 = .ok (.aload_n 0, 1) := by decide +kernel
theorem dX5_gap_15 : decode cX5_gap 15 = .ok (.getfield 21, 3) := by decide +kernel
theorem dX5_gap_18 : decode cX5_gap 18 = .ok (.getfield 101, 3) := by decide +kernel
theorem dX5_gap_21 : decode cX5_gap 21 = .ok (.ifCond .ne 6, 3) := by decide +kernel
theorem dX5_gap_24 : decode cX5_gap 24 = .ok (.bipush (-5), 2) := by decide +kernel
theorem dX5_gap_26 : decode cX5_gap 26 = .ok (.ireturn, 1) := by decide +kernel
theorem dX5_gap_27 : decode cX5_gap 27 = .ok (.aload_n 0, 1) := by decide +kernel
theorem dX5_gap_28 : decode cX5_gap 28 = .ok (.getfield 39, 3) := by decide +kernel
theorem dX5_gap_31 : decode cX5_gap 31 = .ok (.aload_n 0, 1) := by decide +kernel
theorem dX5_gap_32 : decode cX5_gap 32 = .ok (.getfield 54, 3) := by decide +kernel
theorem dX5_gap_35 : decode cX5_gap 35 = .ok (.iload_n 1, 1) := by decide +kernel
theorem dX5_gap_36 : decode cX5_gap 36 = .ok (.invokevirtual 141, 3) := by decide +kernel
theorem dX5_gap_39 : decode cX5_gap 39 = .ok (.aload_n 0, 1) := by decide +kernel
theorem dX5_gap_40 : decode cX5_gap 40 = .ok (.getfield 39, 3) := by decide +kernel
theorem dX5_gap_43 : decode cX5_gap 43 = .ok (.invokevirtual 144, 3) := by decide +kernel
theorem dX5_gap_46 : decode cX5_gap 46 = .ok (.ireturn, 1) := by decide +kernel
def rX5_gap : Room := { frames := 6, cells := 0, slots := 0, locals := 149 }
theorem yk_X5_gap : YK yX5_gap cX5_gap 2 (some .int) 1 := ⟨xim_X5_gap, xse_X5_gap, xin_X5, xco_X5_gap, by decide +kernel⟩
set_option maxRecDepth 4000 in
theorem c_X5_gap {l : Launch} {D : va_G} {t : Nat → ClassId} {a : Nat → Nat} {I : Nat → Int32} {F : Nat → Nat → Int32} {L : Nat → Int64} {K : Cfg} {sd : Int32} {hd : Nat → Nat} {dk : Bool} {dw : Nat → Nat} {mt : Int32} (hI : INV (K, sd, hd, dk, dw, mt)) (hX : RX (K, sd, hd, dk, dw, mt) I F) (x : Int32) : CT l D t yX5_gap cX5_gap 2 (some .int) rX5_gap 0 0 [.ref (a 0), .int x] (WX a t I F L) (XO a t (opGap (K, sd, hd, dk, dw, mt) x)) := by
  refine CT.of (by decide +kernel) (by simp [lg_sl, Value.category]) (fun X C hR => ?_)
  refine xlocals (lv' := [(0, .ref (a 0)), (1, .int x)]) rfl ?_
  obtain ⟨hK, hsd, hHd, hdk, hdr, hgd, hHS, hLS⟩ := id hX
  have hW : WFK K := hI.1
  have hrg := hI.2.1
  have fn24 := hW.n24; have fm60 := hW.m60; have fk2 := hW.k2; have fu1 := hW.u1; have fu9 := hW.u9; have fv1 := hW.v1; have fv9 := hW.v9
  refine xiload_n C 1 rfl dX5_gap_0 ?_
  refine xif_lt C 11 dX5_gap_1 (by decide) (fun h1 => ?_) (fun h1 => ?_)
  ·
    refine xbipush (v := -2) C dX5_gap_11 (by decide) ?_
    exact xret C hR (rfl) dX5_gap_13 (XO.mk (by simp only [opGap]; rw [ci_t (Or.inl h1)]) hX)
  ·
    refine xiload_n C 1 rfl dX5_gap_4 ?_
    refine xsipush (v := 4096) C dX5_gap_5 (by decide) ?_
    refine xicmp_le C 14 dX5_gap_8 (by decide) (fun h8 => ?_) (fun h8 => ?_)
    ·
      obtain ⟨b, _, hb, rfl⟩ := boxN (a := 0) (b := 4096) (by decide) (by decide) h1 (Int32.not_lt.mpr h8)
      refine xaload_n C 0 rfl dX5_gap_14 ?_
      refine gX5_21 C dX5_gap_15 ?_
      refine gX5_101 C dX5_gap_18 ?_
      refine xtopi (y := nI (bn (GoodP K))) (hgd) ?_
      refine xif_neN C 27 dX5_gap_21 (by decide) (bn_lt _) (fun h21 => ?_) (fun h21 => ?_)
      ·
        have hn : 0 < kn K := (bn_1 h21).1
        refine xaload_n C 0 rfl dX5_gap_27 ?_
        refine gX5_39 C dX5_gap_28 ?_
        refine xaload_n C 0 rfl dX5_gap_31 ?_
        refine gX5_54 C dX5_gap_32 ?_
        refine xtopi (y := sd) (hsd) ?_
        refine xiload_n C 1 rfl dX5_gap_35 ?_
        refine xcVV C (c_X0_runBoth hK hW hHS hLS hn sd b hb) yk_X0_runBoth 4 rfl rfl xml_X5_141 ⟨⟨Nat.le_of_ble_eq_true rfl, Nat.le_of_ble_eq_true rfl⟩, ⟨rfl, rfl⟩, ⟨Nat.zero_le _, Nat.zero_le _⟩⟩ rfl (Nat.le_of_ble_eq_true rfl) dX5_gap_36 (fun wE hE => ?_)
        obtain ⟨IA, FA, LA, rfl, hIA, hMA, hXA, hHA, hLA⟩ := hE
        have hKA : CFG K IA FA := hK.of (fun q hq => hIA q (by omega)) (fun q hq => hXA q (by omega) (by omega))
        refine xaload_n C 0 rfl dX5_gap_39 ?_
        refine gX5_39 C dX5_gap_40 ?_
        refine xcVR C (c_X0_unlikePlaces hKA hW hHA hLA) yk_X0_unlikePlaces 4 rfl rfl xml_X5_144 ⟨⟨Nat.le_of_ble_eq_true rfl, Nat.le_of_ble_eq_true rfl⟩, ⟨rfl, rfl⟩, ⟨Nat.zero_le _, Nat.zero_le _⟩⟩ rfl (Nat.le_of_ble_eq_true rfl) dX5_gap_43 ?_
        exact xret C hR (rfl) dX5_gap_46 (XO.mk (by simp only [opGap]; rw [ci_f (fun q => q.elim h1 (fun q => absurd q (Int32.not_lt.mpr h8))), ci_f (fun q => q (bn_1 h21)), show cl (nI b) = b from nI_clamp (by omega)]) (hX.of (fun q h1 h2 => hIA q h2) (fun q h1 h2 h3 => hXA q h1 h2)))
      ·
        refine xbipush (v := -5) C dX5_gap_24 (by decide) ?_
        exact xret C hR (rfl) dX5_gap_26 (XO.mk (by simp only [opGap]; rw [ci_f (fun q => q.elim h1 (fun q => absurd q (Int32.not_lt.mpr h8))), ci_t (bn_0 h21)]) hX)
    ·
      refine xbipush (v := -2) C dX5_gap_11 (by decide) ?_
      exact xret C hR (rfl) dX5_gap_13 (XO.mk (by simp only [opGap]; rw [ci_t (Or.inr (Int32.not_le.mp h8))]) hX)
theorem dX5_draw_0 : decode cX5_draw 0 = .ok (.aload_n 0, 1) := by decide +kernel
theorem dX5_draw_1 : decode cX5_draw 1 = .ok (.getfield 21, 3) := by decide +kernel
theorem dX5_draw_4 : decode cX5_draw 4 = .ok (.getfield 101, 3) := by decide +kernel
theorem dX5_draw_7 : decode cX5_draw 7 = .ok (.ifCond .eq 17, 3) := by decide +kernel
theorem dX5_draw_10 : decode cX5_draw 10 = .ok (.aload_n 0, 1) := by decide +kernel
theorem dX5_draw_11 : decode cX5_draw 11 = .ok (.getfield 39, 3) := by decide +kernel
theorem dX5_draw_14 : decode cX5_draw 14 = .ok (.aload_n 0, 1) := by decide +kernel
theorem dX5_draw_15 : decode cX5_draw 15 = .ok (.getfield 54, 3) := by decide +kernel
theorem dX5_draw_18 : decode cX5_draw 18 = .ok (.invokevirtual 148, 3) := by decide +kernel
theorem dX5_draw_21 : decode cX5_draw 21 = .ok (.ifCond .ne 6, 3) := by decide +kernel
theorem dX5_draw_24 : decode cX5_draw 24 = .ok (.bipush (-5), 2) := by decide +kernel
theorem dX5_draw_26 : decode cX5_draw 26 = .ok (.ireturn, 1) := by decide +kernel
theorem dX5_draw_27 : decode cX5_draw 27 = .ok (.aload_n 0, 1) := by decide +kernel
theorem dX5_draw_28 : decode cX5_draw 28 = .ok (.getfield 39, 3) := by decide +kernel
theorem dX5_draw_31 : decode cX5_draw 31 = .ok (.invokevirtual 151, 3) := by decide +kernel
theorem dX5_draw_34 : decode cX5_draw 34 = .ok (.aload_n 0, 1) := by decide +kernel
theorem dX5_draw_35 : decode cX5_draw 35 = .ok (.getfield 39, 3) := by decide +kernel
theorem dX5_draw_38 : decode cX5_draw 38 = .ok (.getfield 154, 3) := by decide +kernel
theorem dX5_draw_41 : decode cX5_draw 41 = .ok (.ireturn, 1) := by decide +kernel
def rX5_draw : Room := { frames := 7, cells := 0, slots := 0, locals := 171 }
theorem yk_X5_draw : YK yX5_draw cX5_draw 1 (some .int) 0 := ⟨xim_X5_draw, xse_X5_draw, xin_X5, xco_X5_draw, by decide +kernel⟩
set_option maxRecDepth 4000 in
theorem c_X5_draw {l : Launch} {D : va_G} {t : Nat → ClassId} {a : Nat → Nat} {I : Nat → Int32} {F : Nat → Nat → Int32} {L : Nat → Int64} {K : Cfg} {sd : Int32} {hd : Nat → Nat} {dk : Bool} {dw : Nat → Nat} {mt : Int32} (hI : INV (K, sd, hd, dk, dw, mt)) (hX : RX (K, sd, hd, dk, dw, mt) I F)  : CT l D t yX5_draw cX5_draw 1 (some .int) rX5_draw 0 0 [.ref (a 0)] (WX a t I F L) (XO a t (opDraw (K, sd, hd, dk, dw, mt))) := by
  refine CT.of (by decide +kernel) (by simp [lg_sl, Value.category]) (fun X C hR => ?_)
  refine xlocals (lv' := [(0, .ref (a 0))]) rfl ?_
  obtain ⟨hK, hsd, hHd, hdk, hdr, hgd, hHS, hLS⟩ := id hX
  have hW : WFK K := hI.1
  have hrg := hI.2.1
  have fn24 := hW.n24; have fm60 := hW.m60; have fk2 := hW.k2; have fu1 := hW.u1; have fu9 := hW.u9; have fv1 := hW.v1; have fv9 := hW.v9
  refine xaload_n C 0 rfl dX5_draw_0 ?_
  refine gX5_21 C dX5_draw_1 ?_
  refine gX5_101 C dX5_draw_4 ?_
  refine xtopi (y := nI (bn (GoodP K))) (hgd) ?_
  refine xif_eqN C 24 dX5_draw_7 (by decide) (bn_lt _) (fun h7 => ?_) (fun h7 => ?_)
  ·
    refine xbipush (v := -5) C dX5_draw_24 (by decide) ?_
    exact xret C hR (rfl) dX5_draw_26 (XO.mk (by simp only [opDraw]; rw [ci_t (bn_0 h7)]) hX)
  ·
    have hn : 0 < kn K := (bn_1 h7).1
    refine xaload_n C 0 rfl dX5_draw_10 ?_
    refine gX5_39 C dX5_draw_11 ?_
    refine xaload_n C 0 rfl dX5_draw_14 ?_
    refine gX5_54 C dX5_draw_15 ?_
    refine xtopi (y := sd) (hsd) ?_
    refine xcVE C (c_X0_findsOne hK hW hHS hLS hn sd) yk_X0_findsOne 4 rfl rfl xml_X5_148 ⟨⟨Nat.le_of_ble_eq_true rfl, Nat.le_of_ble_eq_true rfl⟩, ⟨rfl, rfl⟩, ⟨Nat.zero_le _, Nat.zero_le _⟩⟩ rfl (Nat.le_of_ble_eq_true rfl) dX5_draw_18 (fun vE wE hE => ?_)
    obtain ⟨IB, FB, LB, rfl, hIB, hXB, hor⟩ := hE
    rcases hor with ⟨e, hfar, he12, rfl, h6B, h7B, hLB⟩ | ⟨hfar, rfl⟩
    ·
      refine xif_neN C 27 dX5_draw_21 (by decide) (by omega) (fun h21 => ?_) (fun h21 => ?_)
      ·
        refine xaload_n C 0 rfl dX5_draw_27 ?_
        refine gX5_39 C dX5_draw_28 ?_
        refine xcVV C (c_X0_keep) yk_X0_keep 4 rfl rfl xml_X5_151 ⟨⟨Nat.le_of_ble_eq_true rfl, Nat.le_of_ble_eq_true rfl⟩, ⟨rfl, rfl⟩, ⟨Nat.zero_le _, Nat.zero_le _⟩⟩ rfl (Nat.le_of_ble_eq_true rfl) dX5_draw_31 (fun wE hE => ?_)
        obtain ⟨FC, rfl, hFC, hFc⟩ := hE
        refine xaload_n C 0 rfl dX5_draw_34 ?_
        refine gX5_39 C dX5_draw_35 ?_
        refine gX5_154 C dX5_draw_38 ?_
        refine xtopi (y := nI (2 ^ e)) (by rw [va_up_ne _ _ (by decide), va_up_ne _ _ (by decide)]; exact h6B) ?_
        exact xret C hR (rfl) dX5_draw_41 (XO.mk (by simp only [opDraw]; rw [ci_f (fun q => q (bn_1 h7)), hfar]) ((hX.of hIB (fun q h1 h2 h3 => hXB q h1 h2)).draw h7B hLB (fun q hq => hFC q hq) (fun p hp => hFc p (by omega))))
      · exact absurd h21 (by decide)
    ·
      refine xif_neN C 27 dX5_draw_21 (by decide) (by omega) (fun h21 => ?_) (fun h21 => ?_)
      · exact absurd h21 (fun h => h rfl)
      ·
        refine xbipush (v := -5) C dX5_draw_24 (by decide) ?_
        exact xret C hR (rfl) dX5_draw_26 (XO.mk (by simp only [opDraw]; rw [ci_f (fun q => q (bn_1 h7)), hfar]) (hX.of hIB (fun q h1 h2 h3 => hXB q h1 h2)))
theorem dX5_drawn_0 : decode cX5_drawn 0 = .ok (.aload_n 0, 1) := by decide +kernel
theorem dX5_drawn_1 : decode cX5_drawn 1 = .ok (.getfield 10, 3) := by decide +kernel
theorem dX5_drawn_4 : decode cX5_drawn 4 = .ok (.iload_n 1, 1) := by decide +kernel
theorem dX5_drawn_5 : decode cX5_drawn 5 = .ok (.invokevirtual 68, 3) := by decide +kernel
theorem dX5_drawn_8 : decode cX5_drawn 8 = .ok (.ifCond .ne 5, 3) := by decide +kernel
theorem dX5_drawn_11 : decode cX5_drawn 11 = .ok (.iconst (-1), 1) := by decide +kernel
theorem dX5_drawn_12 : decode cX5_drawn 12 = .ok (.ireturn, 1) := by decide +kernel
theorem dX5_drawn_13 : decode cX5_drawn 13 = .ok (.aload_n 0, 1) := by decide +kernel
theorem dX5_drawn_14 : decode cX5_drawn 14 = .ok (.getfield 39, 3) := by decide +kernel
theorem dX5_drawn_17 : decode cX5_drawn 17 = .ok (.getfield 115, 3) := by decide +kernel
theorem dX5_drawn_20 : decode cX5_drawn 20 = .ok (.ifCond .eq 15, 3) := by decide +kernel
theorem dX5_drawn_23 : decode cX5_drawn 23 = .ok (.aload_n 0, 1) := by decide +kernel
theorem dX5_drawn_24 : decode cX5_drawn 24 = .ok (.getfield 39, 3) := by decide +kernel
theorem dX5_drawn_27 : decode cX5_drawn 27 = .ok (.getfield 118, 3) := by decide +kernel
theorem dX5_drawn_30 : decode cX5_drawn 30 = .ok (.iload_n 1, 1) := by decide +kernel
theorem dX5_drawn_31 : decode cX5_drawn 31 = .ok (.iaload, 1) := by decide +kernel
theorem dX5_drawn_32 : decode cX5_drawn 32 = .ok (.goto 5, 3) := by decide +kernel
theorem dX5_drawn_35 : decode cX5_drawn 35 = .ok (.bipush (-3), 2) := by decide +kernel
theorem dX5_drawn_37 : decode cX5_drawn 37 = .ok (.ireturn, 1) := by decide +kernel
def rX5_drawn : Room := { frames := 1, cells := 0, slots := 0, locals := 21 }
theorem yk_X5_drawn : YK yX5_drawn cX5_drawn 2 (some .int) 1 := ⟨xim_X5_drawn, xse_X5_drawn, xin_X5, xco_X5_drawn, by decide +kernel⟩
set_option maxRecDepth 4000 in
theorem c_X5_drawn {l : Launch} {D : va_G} {t : Nat → ClassId} {a : Nat → Nat} {I : Nat → Int32} {F : Nat → Nat → Int32} {L : Nat → Int64} {K : Cfg} {sd : Int32} {hd : Nat → Nat} {dk : Bool} {dw : Nat → Nat} {mt : Int32} (hI : INV (K, sd, hd, dk, dw, mt)) (hX : RX (K, sd, hd, dk, dw, mt) I F) (x : Int32) : CT l D t yX5_drawn cX5_drawn 2 (some .int) rX5_drawn 0 0 [.ref (a 0), .int x] (WX a t I F L) (XO a t (opDrawn (K, sd, hd, dk, dw, mt) x)) := by
  refine CT.of (by decide +kernel) (by simp [lg_sl, Value.category]) (fun X C hR => ?_)
  refine xlocals (lv' := [(0, .ref (a 0)), (1, .int x)]) rfl ?_
  obtain ⟨hK, hsd, hHd, hdk, hdr, hgd, hHS, hLS⟩ := id hX
  have hW : WFK K := hI.1
  have hrg := hI.2.1
  have fn24 := hW.n24; have fm60 := hW.m60; have fk2 := hW.k2; have fu1 := hW.u1; have fu9 := hW.u9; have fv1 := hW.v1; have fv9 := hW.v9
  refine xaload_n C 0 rfl dX5_drawn_0 ?_
  refine gX5_10 C dX5_drawn_1 ?_
  refine xiload_n C 1 rfl dX5_drawn_4 ?_
  refine xcVR C (c_X1_has hK hW x) yk_X1_has 1 rfl rfl xml_X5_68 ⟨⟨Nat.le_of_ble_eq_true rfl, Nat.le_of_ble_eq_true rfl⟩, ⟨rfl, rfl⟩, ⟨Nat.zero_le _, Nat.zero_le _⟩⟩ rfl (Nat.le_of_ble_eq_true rfl) dX5_drawn_5 ?_
  refine xif_neN C 13 dX5_drawn_8 (by decide) (bn_lt _) (fun h8 => ?_) (fun h8 => ?_)
  ·
    obtain ⟨p, hp, rfl⟩ := (bn_1 h8).nat hW
    refine xaload_n C 0 rfl dX5_drawn_13 ?_
    refine gX5_39 C dX5_drawn_14 ?_
    refine gX5_115 C dX5_drawn_17 ?_
    refine xtopi (y := nI (dkN dk)) (hdk) ?_
    have hdl := dkN_le dk
    refine xif_eqN C 35 dX5_drawn_20 (by decide) (by omega) (fun h20 => ?_) (fun h20 => ?_)
    ·
      refine xbipush (v := -3) C dX5_drawn_35 (by decide) ?_
      exact xret C hR (rfl) dX5_drawn_37 (XO.mk (by simp only [opDrawn]; rw [ci_f (fun q => q (hasP_nat hW hp)), ci_t (dk0 h20)]) hX)
    ·
      have hdw := (hdr (dk1 h20)).1
      refine xaload_n C 0 rfl dX5_drawn_23 ?_
      refine gX5_39 C dX5_drawn_24 ?_
      refine gX5_118 C dX5_drawn_27 ?_
      refine xiload_n C 1 rfl dX5_drawn_30 ?_
      refine xa_st C hW 10 (by omega) (by omega) hdw p (by omega) dX5_drawn_31 ?_
      have fb31 := (hdw p (by omega)).2
      refine xgoto C 37 dX5_drawn_32 (by decide) ?_
      exact xret C hR (rfl) dX5_drawn_37 (XO.mk (by simp only [opDrawn]; rw [ci_f (fun q => q (hasP_nat hW hp)), ci_f (by rw [dk1 h20]; decide), show cl (nI p) = p from nI_clamp (by omega)]) hX)
  ·
    have h8 := bn_0 h8
    refine xiconst (v := -1) C dX5_drawn_11 (by decide) ?_
    exact xret C hR (rfl) dX5_drawn_12 (XO.mk (by simp only [opDrawn]; rw [ci_t h8]) hX)
theorem dX5_met_0 : decode cX5_met 0 = .ok (.aload_n 0, 1) := by decide +kernel
theorem dX5_met_1 : decode cX5_met 1 = .ok (.getfield 39, 3) := by decide +kernel
theorem dX5_met_4 : decode cX5_met 4 = .ok (.getfield 115, 3) := by decide +kernel
theorem dX5_met_7 : decode cX5_met 7 = .ok (.ifCond .eq 13, 3) := by decide +kernel
theorem dX5_met_10 : decode cX5_met 10 = .ok (.aload_n 0, 1) := by decide +kernel
theorem dX5_met_11 : decode cX5_met 11 = .ok (.getfield 39, 3) := by decide +kernel
theorem dX5_met_14 : decode cX5_met 14 = .ok (.getfield 157, 3) := by decide +kernel
theorem dX5_met_17 : decode cX5_met 17 = .ok (.goto 4, 3) := by decide +kernel
theorem dX5_met_20 : decode cX5_met 20 = .ok (.iconst 1, 1) := by decide +kernel
theorem dX5_met_21 : decode cX5_met 21 = .ok (.ireturn, 1) := by decide +kernel
def rX5_met : Room := { frames := 0, cells := 0, slots := 0, locals := 0 }
theorem yk_X5_met : YK yX5_met cX5_met 1 (some .int) 0 := ⟨xim_X5_met, xse_X5_met, xin_X5, xco_X5_met, by decide +kernel⟩
set_option maxRecDepth 4000 in
theorem c_X5_met {l : Launch} {D : va_G} {t : Nat → ClassId} {a : Nat → Nat} {I : Nat → Int32} {F : Nat → Nat → Int32} {L : Nat → Int64} {K : Cfg} {sd : Int32} {hd : Nat → Nat} {dk : Bool} {dw : Nat → Nat} {mt : Int32} (hI : INV (K, sd, hd, dk, dw, mt)) (hX : RX (K, sd, hd, dk, dw, mt) I F)  : CT l D t yX5_met cX5_met 1 (some .int) rX5_met 0 0 [.ref (a 0)] (WX a t I F L) (XO a t (opMet (K, sd, hd, dk, dw, mt))) := by
  refine CT.of (by decide +kernel) (by simp [lg_sl, Value.category]) (fun X C hR => ?_)
  refine xlocals (lv' := [(0, .ref (a 0))]) rfl ?_
  obtain ⟨hK, hsd, hHd, hdk, hdr, hgd, hHS, hLS⟩ := id hX
  have hW : WFK K := hI.1
  have hrg := hI.2.1
  have fn24 := hW.n24; have fm60 := hW.m60; have fk2 := hW.k2; have fu1 := hW.u1; have fu9 := hW.u9; have fv1 := hW.v1; have fv9 := hW.v9
  refine xaload_n C 0 rfl dX5_met_0 ?_
  refine gX5_39 C dX5_met_1 ?_
  refine gX5_115 C dX5_met_4 ?_
  refine xtopi (y := nI (dkN dk)) (hdk) ?_
  have hdl := dkN_le dk
  refine xif_eqN C 20 dX5_met_7 (by decide) (by omega) (fun h7 => ?_) (fun h7 => ?_)
  ·
    refine xiconst (v := nI 1) C dX5_met_20 (by decide) ?_
    exact xret C hR (rfl) dX5_met_21 (XO.mk (by simp only [opMet]; rw [ci_t (dk0 h7), nI_one]) hX)
  ·
    refine xaload_n C 0 rfl dX5_met_10 ?_
    refine gX5_39 C dX5_met_11 ?_
    refine gX5_157 C dX5_met_14 ?_
    refine xtopi (y := mt) ((hdr (dk1 h7)).2) ?_
    refine xgoto C 21 dX5_met_17 (by decide) ?_
    exact xret C hR (rfl) dX5_met_21 (XO.mk (by simp only [opMet]; rw [ci_f (by rw [dk1 h7]; decide)]) hX)
theorem dX5_tally_0 : decode cX5_tally 0 = .ok (.aload_n 0, 1) := by decide +kernel
theorem dX5_tally_1 : decode cX5_tally 1 = .ok (.getfield 10, 3) := by decide +kernel
theorem dX5_tally_4 : decode cX5_tally 4 = .ok (.iload_n 1, 1) := by decide +kernel
theorem dX5_tally_5 : decode cX5_tally 5 = .ok (.invokevirtual 68, 3) := by decide +kernel
theorem dX5_tally_8 : decode cX5_tally 8 = .ok (.ifCond .ne 5, 3) := by decide +kernel
theorem dX5_tally_11 : decode cX5_tally 11 = .ok (.iconst (-1), 1) := by decide +kernel
theorem dX5_tally_12 : decode cX5_tally 12 = .ok (.ireturn, 1) := by decide +kernel
theorem dX5_tally_13 : decode cX5_tally 13 = .ok (.iload_n 3, 1) := by decide +kernel
theorem dX5_tally_14 : decode cX5_tally 14 = .ok (.iconst 1, 1) := by decide +kernel
theorem dX5_tally_15 : decode cX5_tally 15 = .ok (.if_icmp .lt 9, 3) := by decide +kernel
theorem dX5_tally_18 : decode cX5_tally 18 = .ok (.iload_n 3, 1) := by decide +kernel
theorem dX5_tally_19 : decode cX5_tally 19 = .ok (.bipush 8, 2) := by decide +kernel
theorem dX5_tally_21 : decode cX5_tally 21 = .ok (.if_icmp .le 6, 3) := by decide +kernel
theorem dX5_tally_24 : decode cX5_tally 24 = .ok (.bipush (-2), 2) := by decide +kernel
theorem dX5_tally_26 : decode cX5_tally 26 = .ok (.ireturn, 1) := by decide +kernel
theorem dX5_tally_27 : decode cX5_tally 27 = .ok (.aload_n 0, 1) := by decide +kernel
theorem dX5_tally_28 : decode cX5_tally 28 = .ok (.getfield 21, 3) := by decide +kernel
theorem dX5_tally_31 : decode cX5_tally 31 = .ok (.getfield 101, 3) := by decide +kernel
theorem dX5_tally_34 : decode cX5_tally 34 = .ok (.ifCond .ne 6, 3) := by decide +kernel
theorem dX5_tally_37 : decode cX5_tally 37 = .ok (.bipush (-5), 2) := by decide +kernel
theorem dX5_tally_39 : decode cX5_tally 39 = .ok (.ireturn, 1) := by decide +kernel
theorem dX5_tally_40 : decode cX5_tally 40 = .ok (.iconst 0, 1) := by decide +kernel
theorem dX5_tally_41 : decode cX5_tally 41 = .ok (.istore 4, 2) := by decide +kernel
theorem dX5_tally_43 : decode cX5_tally 43 = .ok (.iconst 0, 1) := by decide +kernel
theorem dX5_tally_44 : decode cX5_tally 44 = .ok (.istore 5, 2) := by decide +kernel
theorem dX5_tally_46 : decode cX5_tally 46 = .ok (.iload 5, 2) := by decide +kernel
theorem dX5_tally_48 : decode cX5_tally 48 = .ok (.iload_n 3, 1) := by decide +kernel
theorem dX5_tally_49 : decode cX5_tally 49 = .ok (.if_icmp .ge 40, 3) := by decide +kernel
theorem dX5_tally_52 : decode cX5_tally 52 = .ok (.aload_n 0, 1) := by decide +kernel
theorem dX5_tally_53 : decode cX5_tally 53 = .ok (.getfield 39, 3) := by decide +kernel
theorem dX5_tally_56 : decode cX5_tally 56 = .ok (.iload_n 2, 1) := by decide +kernel
theorem dX5_tally_57 : decode cX5_tally 57 = .ok (.iload 5, 2) := by decide +kernel
theorem dX5_tally_59 : decode cX5_tally 59 = .ok (.iadd, 1) := by decide +kernel
theorem dX5_tally_60 : decode cX5_tally 60 = .ok (.invokevirtual 148, 3) := by decide +kernel
theorem dX5_tally_63 : decode cX5_tally 63 = .ok (.ifCond .ne 6, 3) := by decide +kernel
theorem dX5_tally_66 : decode cX5_tally 66 = .ok (.bipush (-5), 2) := by decide +kernel
theorem dX5_tally_68 : decode cX5_tally 68 = .ok (.ireturn, 1) := by decide +kernel
theorem dX5_tally_69 : decode cX5_tally 69 = .ok (.iload 4, 2) := by decide +kernel
theorem dX5_tally_71 : decode cX5_tally 71 = .ok (.aload_n 0, 1) := by decide +kernel
theorem dX5_tally_72 : decode cX5_tally 72 = .ok (.getfield 39, 3) := by decide +kernel
theorem dX5_tally_75 : decode cX5_tally 75 = .ok (.getfield 160, 3) := by decide +kernel
theorem dX5_tally_78 : decode cX5_tally 78 = .ok (.iload_n 1, 1) := by decide +kernel
theorem dX5_tally_79 : decode cX5_tally 79 = .ok (.iaload, 1) := by decide +kernel
theorem dX5_tally_80 : decode cX5_tally 80 = .ok (.iadd, 1) := by decide +kernel
theorem dX5_tally_81 : decode cX5_tally 81 = .ok (.istore 4, 2) := by decide +kernel
theorem dX5_tally_83 : decode cX5_tally 83 = .ok (.iinc 5 1, 3) := by decide +kernel
theorem dX5_tally_86 : decode cX5_tally 86 = .ok (.goto (-40), 3) := by decide +kernel
theorem dX5_tally_89 : decode cX5_tally 89 = .ok (.iload 4, 2) := by decide +kernel
theorem dX5_tally_91 : decode cX5_tally 91 = .ok (.ireturn, 1) := by decide +kernel
def rX5_tally : Room := { frames := 7, cells := 0, slots := 0, locals := 171 }
theorem yk_X5_tally : YK yX5_tally cX5_tally 6 (some .int) 3 := ⟨xim_X5_tally, xse_X5_tally, xin_X5, xco_X5_tally, by decide +kernel⟩
set_option maxRecDepth 4000 in
theorem c_X5_tally {l : Launch} {D : va_G} {t : Nat → ClassId} {a : Nat → Nat} {I : Nat → Int32} {F : Nat → Nat → Int32} {L : Nat → Int64} {K : Cfg} {sd : Int32} {hd : Nat → Nat} {dk : Bool} {dw : Nat → Nat} {mt : Int32} (hI : INV (K, sd, hd, dk, dw, mt)) (hX : RX (K, sd, hd, dk, dw, mt) I F) (x y z : Int32) : CT l D t yX5_tally cX5_tally 6 (some .int) rX5_tally 0 0 [.ref (a 0), .int x, .int y, .int z] (WX a t I F L) (XO a t (opTally (K, sd, hd, dk, dw, mt) x y z)) := by
  refine CT.of (by decide +kernel) (by simp [lg_sl, Value.category]) (fun X C hR => ?_)
  refine xlocals (lv' := [(0, .ref (a 0)), (1, .int x), (2, .int y), (3, .int z)]) rfl ?_
  obtain ⟨hK, hsd, hHd, hdk, hdr, hgd, hHS, hLS⟩ := id hX
  have hW : WFK K := hI.1
  have hrg := hI.2.1
  have fn24 := hW.n24; have fm60 := hW.m60; have fk2 := hW.k2; have fu1 := hW.u1; have fu9 := hW.u9; have fv1 := hW.v1; have fv9 := hW.v9
  refine xaload_n C 0 rfl dX5_tally_0 ?_
  refine gX5_10 C dX5_tally_1 ?_
  refine xiload_n C 1 rfl dX5_tally_4 ?_
  refine xcVR C (c_X1_has hK hW x) yk_X1_has 1 rfl rfl xml_X5_68 ⟨⟨Nat.le_of_ble_eq_true rfl, Nat.le_of_ble_eq_true rfl⟩, ⟨rfl, rfl⟩, ⟨Nat.zero_le _, Nat.zero_le _⟩⟩ rfl (Nat.le_of_ble_eq_true rfl) dX5_tally_5 ?_
  refine xif_neN C 13 dX5_tally_8 (by decide) (bn_lt _) (fun h8 => ?_) (fun h8 => ?_)
  ·
    obtain ⟨p, hp, rfl⟩ := (bn_1 h8).nat hW
    refine xiload_n C 3 rfl dX5_tally_13 ?_
    refine xiconst (v := 1) C dX5_tally_14 (by decide) ?_
    refine xicmp_lt C 24 dX5_tally_15 (by decide) (fun h15 => ?_) (fun h15 => ?_)
    ·
      refine xbipush (v := -2) C dX5_tally_24 (by decide) ?_
      exact xret C hR (rfl) dX5_tally_26 (XO.mk (by simp only [opTally]; rw [ci_f (fun q => q (hasP_nat hW hp)), ci_t (Or.inl h15)]) hX)
    ·
      refine xiload_n C 3 rfl dX5_tally_18 ?_
      refine xbipush (v := 8) C dX5_tally_19 (by decide) ?_
      refine xicmp_le C 27 dX5_tally_21 (by decide) (fun h21 => ?_) (fun h21 => ?_)
      ·
        obtain ⟨n, hn1, hn8, rfl⟩ := box18 h15 (Int32.not_lt.mpr h21)
        refine xaload_n C 0 rfl dX5_tally_27 ?_
        refine gX5_21 C dX5_tally_28 ?_
        refine gX5_101 C dX5_tally_31 ?_
        refine xtopi (y := nI (bn (GoodP K))) (hgd) ?_
        refine xif_neN C 40 dX5_tally_34 (by decide) (bn_lt _) (fun h34 => ?_) (fun h34 => ?_)
        ·
          have hn : 0 < kn K := (bn_1 h34).1
          refine xiconst (v := nI 0) C dX5_tally_40 (by decide) ?_
          refine xistore (lv' := [(4, .int (nI 0)), (0, .ref (a 0)), (1, .int (nI p)), (2, .int y), (3, .int (nI n))]) C dX5_tally_41 (by decide) rfl ?_
          refine xiconst (v := nI 0) C dX5_tally_43 (by decide) ?_
          refine xistore (lv' := [(5, .int (nI 0)), (4, .int (nI 0)), (0, .ref (a 0)), (1, .int (nI p)), (2, .int y), (3, .int (nI n))]) C dX5_tally_44 (by decide) rfl ?_
          have LP46 : ∀ (fu46 : Nat) (i : Nat) (c : Nat) (IA : Nat → Int32) (FA : Nat → Nat → Int32) (LA : Nat → Int64) (hi : i ≤ n) (hc : tlN K y p i = some c) (hIA : ∀ q, q ≠ 6 → q ≠ 7 → IA q = I q) (hXA : (∀ q, q ≠ 8 → q ≠ 9 → FA q = F q)), n - i < fu46 → XW X 0 0 (WX a t IA FA LA) [(0, .ref (a 0)), (1, .int (nI p)), (2, .int y), (3, .int (nI n)), (4, .int (nI c)), (5, .int (nI i))] 46 [] := by
            intro fu46
            induction fu46 with
            | zero => intro i c IA FA LA hi hc hIA hXA hm46; exact absurd hm46 (Nat.not_lt_zero _)
            | succ fu46 ih46 =>
              intro i c IA FA LA hi hc hIA hXA hm46
              have hKA : CFG K IA FA := hK.of (fun q hq => hIA q (by omega) (by omega)) (fun q hq => hXA q (by omega) (by omega))
              refine xiload C 5 rfl dX5_tally_46 ?_
              refine xiload_n C 3 rfl dX5_tally_48 ?_
              refine xicmp_geN C 89 dX5_tally_49 (by decide) (by omega) (by omega) (fun h49 => ?_) (fun h49 => ?_)
              ·
                refine xiload C 4 rfl dX5_tally_89 ?_
                exact xret C hR (rfl) dX5_tally_91 (XO.mk (by simp only [opTally]; rw [ci_f (fun q => q (hasP_nat hW hp)), ci_f (fun q => q.elim h15 (fun q => absurd q (Int32.not_lt.mpr h21))), ci_f (fun q => q (bn_1 h34)), show cl (nI p) = p from nI_clamp (by omega), show cl (nI n) = n from nI_clamp (by omega), show tlN K y p n = some c from (show i = n by omega) ▸ hc]) (hX.of hIA (fun q h1 h2 h3 => hXA q h1 h2)))
              ·
                refine xaload_n C 0 rfl dX5_tally_52 ?_
                refine gX5_39 C dX5_tally_53 ?_
                refine xiload_n C 2 rfl dX5_tally_56 ?_
                refine xiload C 5 rfl dX5_tally_57 ?_
                refine xiadd C dX5_tally_59 ?_
                refine xcVE C (c_X0_findsOne hKA hW (by rw [hXA 6 (by decide) (by decide)]; exact hHS) (by rw [hXA 7 (by decide) (by decide)]; exact hLS) hn (y + (nI i))) yk_X0_findsOne 4 rfl rfl xml_X5_148 ⟨⟨Nat.le_of_ble_eq_true rfl, Nat.le_of_ble_eq_true rfl⟩, ⟨rfl, rfl⟩, ⟨Nat.zero_le _, Nat.zero_le _⟩⟩ rfl (Nat.le_of_ble_eq_true rfl) dX5_tally_60 (fun vE wE hE => ?_)
                obtain ⟨IB, FB, LB, rfl, hIB, hXB, hor⟩ := hE
                rcases hor with ⟨e, hfar, he12, rfl, h6B, h7B, hLB⟩ | ⟨hfar, rfl⟩
                ·
                  have hXC : (∀ q, q ≠ 8 → q ≠ 9 → FB q = F q) := fun q h1 h2 => (hXB q h1 h2).trans (hXA q h1 h2)
                  have hIC : ∀ q, q ≠ 6 → q ≠ 7 → IB q = I q := fun q h1 h2 => (hIB q h1 h2).trans (hIA q h1 h2)
                  have hKB : CFG K IB FB := hK.of (fun q hq => hIC q (by omega) (by omega)) (fun q hq => hXC q (by omega) (by omega))
                  refine xif_neN C 69 dX5_tally_63 (by decide) (by omega) (fun h63 => ?_) (fun h63 => ?_)
                  ·
                    refine xiload C 4 rfl dX5_tally_69 ?_
                    refine xaload_n C 0 rfl dX5_tally_71 ?_
                    refine gX5_39 C dX5_tally_72 ?_
                    refine gX5_160 C dX5_tally_75 ?_
                    refine xiload_n C 1 rfl dX5_tally_78 ?_
                    refine xa_st C hW 9 (by omega) (by omega) hLB p (by omega) dX5_tally_79 ?_
                    have fb79 := (hLB p (by omega)).2
                    refine xiaddN C dX5_tally_80 ?_
                    refine xistore (lv' := [(4, .int (nI (c + ((itN K (y + nI i) (lS K) (-nI (2 ^ e)) (2 ^ e)) p)))), (0, .ref (a 0)), (1, .int (nI p)), (2, .int y), (3, .int (nI n)), (5, .int (nI i))]) C dX5_tally_81 (by decide) rfl ?_
                    refine xiincN (lv' := [(5, .int (nI (i + 1))), (4, .int (nI (c + ((itN K (y + nI i) (lS K) (-nI (2 ^ e)) (2 ^ e)) p)))), (0, .ref (a 0)), (1, .int (nI p)), (2, .int y), (3, .int (nI n))]) C 5 rfl dX5_tally_83 (by decide) rfl ?_
                    refine xgoto C 46 dX5_tally_86 (by decide) ?_
                    refine xsub [2, 3, 4, 5, 1, 0] rfl ?_
                    exact ih46 (i + 1) (c + itN K (y + nI i) (lS K) (-nI (2 ^ e)) (2 ^ e) p) IB FB LB (by omega) (tlN_go hc hfar) hIC hXC (by omega)
                  · exact absurd h63 (by decide)
                ·
                  refine xif_neN C 69 dX5_tally_63 (by decide) (by omega) (fun h63 => ?_) (fun h63 => ?_)
                  · exact absurd h63 (fun h => h rfl)
                  ·
                    refine xbipush (v := -5) C dX5_tally_66 (by decide) ?_
                    exact xret C hR (rfl) dX5_tally_68 (XO.mk (by simp only [opTally]; rw [ci_f (fun q => q (hasP_nat hW hp)), ci_f (fun q => q.elim h15 (fun q => absurd q (Int32.not_lt.mpr h21))), ci_f (fun q => q (bn_1 h34)), show cl (nI p) = p from nI_clamp (by omega), show cl (nI n) = n from nI_clamp (by omega), tlN_none (tlN_fail hc hfar) (by omega)]) (hX.of (fun q h1 h2 => (hIB q h1 h2).trans (hIA q h1 h2)) (fun q h1 h2 h3 => (hXB q h1 h2).trans (hXA q h1 h2))))
          refine xsub [2, 3, 4, 5, 1, 0] rfl ?_
          exact LP46 _ 0 0 I F L (Nat.zero_le _) rfl (fun _ _ _ => rfl) (fun _ _ _ => rfl) (Nat.lt_succ_self _)
        ·
          refine xbipush (v := -5) C dX5_tally_37 (by decide) ?_
          exact xret C hR (rfl) dX5_tally_39 (XO.mk (by simp only [opTally]; rw [ci_f (fun q => q (hasP_nat hW hp)), ci_f (fun q => q.elim h15 (fun q => absurd q (Int32.not_lt.mpr h21))), ci_t (bn_0 h34)]) hX)
      ·
        refine xbipush (v := -2) C dX5_tally_24 (by decide) ?_
        exact xret C hR (rfl) dX5_tally_26 (XO.mk (by simp only [opTally]; rw [ci_f (fun q => q (hasP_nat hW hp)), ci_t (Or.inr (Int32.not_le.mp h21))]) hX)
  ·
    have h8 := bn_0 h8
    refine xiconst (v := -1) C dX5_tally_11 (by decide) ?_
    exact xret C hR (rfl) dX5_tally_12 (XO.mk (by simp only [opTally]; rw [ci_t h8]) hX)
theorem dX5_refusalUnlessSmall_0 : decode cX5_refusalUnlessSmall 0 = .ok (.aload_n 0, 1) := by decide +kernel
theorem dX5_refusalUnlessSmall_1 : decode cX5_refusalUnlessSmall 1 = .ok (.getfield 21, 3) := by decide +kernel
theorem dX5_refusalUnlessSmall_4 : decode cX5_refusalUnlessSmall 4 = .ok (.getfield 101, 3) := by decide +kernel
theorem dX5_refusalUnlessSmall_7 : decode cX5_refusalUnlessSmall 7 = .ok (.ifCond .ne 6, 3) := by decide +kernel
theorem dX5_refusalUnlessSmall_10 : decode cX5_refusalUnlessSmall 10 = .ok (.bipush (-5), 2) := by decide +kernel
theorem dX5_refusalUnlessSmall_12 : decode cX5_refusalUnlessSmall 12 = .ok (.ireturn, 1) := by decide +kernel
theorem dX5_refusalUnlessSmall_13 : decode cX5_refusalUnlessSmall 13 = .ok (.aload_n 0, 1) := by decide +kernel
theorem dX5_refusalUnlessSmall_14 : decode cX5_refusalUnlessSmall 14 = .ok (.getfield 46, 3) := by decide +kernel
theorem dX5_refusalUnlessSmall_17 : decode cX5_refusalUnlessSmall 17 = .ok (.invokevirtual 201, 3) := by decide +kernel
theorem dX5_refusalUnlessSmall_20 : decode cX5_refusalUnlessSmall 20 = .ok (.ifCond .eq 7, 3) := by decide +kernel
theorem dX5_refusalUnlessSmall_23 : decode cX5_refusalUnlessSmall 23 = .ok (.iconst 0, 1) := by decide +kernel
theorem dX5_refusalUnlessSmall_24 : decode cX5_refusalUnlessSmall 24 = .ok (.goto 5, 3) := by decide +kernel
theorem dX5_refusalUnlessSmall_27 : decode cX5_refusalUnlessSmall 27 = .ok (.bipush (-4), 2) := by decide +kernel
theorem dX5_refusalUnlessSmall_29 : decode cX5_refusalUnlessSmall 29 = .ok (.ireturn, 1) := by decide +kernel
def rX5_refusalUnlessSmall : Room := { frames := 3, cells := 0, slots := 0, locals := 64 }
theorem yk_X5_refusalUnlessSmall : YK yX5_refusalUnlessSmall cX5_refusalUnlessSmall 1 (some .int) 0 := ⟨xim_X5_refusalUnlessSmall, xse_X5_refusalUnlessSmall, xin_X5, xco_X5_refusalUnlessSmall, by decide +kernel⟩
set_option maxRecDepth 4000 in
theorem c_X5_refusalUnlessSmall {l : Launch} {D : va_G} {t : Nat → ClassId} {a : Nat → Nat} {I : Nat → Int32} {F : Nat → Nat → Int32} {L : Nat → Int64} {K : Cfg} (hK : CFG K I F) (hW : WFK K) (hgd : I 5 = nI (bn (GoodP K))) : CT l D t yX5_refusalUnlessSmall cX5_refusalUnlessSmall 1 (some .int) rX5_refusalUnlessSmall 0 0 [.ref (a 0)] (WX a t I F L) (EP (fun v w => w = WX a t I F L ∧ ((¬ GoodP K ∧ v = .int (-5)) ∨ (GoodP K ∧ ¬ smlP K ∧ v = .int (-4)) ∨ (GoodP K ∧ smlP K ∧ v = .int (nI 0))))) := by
  refine CT.of (by decide +kernel) (by simp [lg_sl, Value.category]) (fun X C hR => ?_)
  refine xlocals (lv' := [(0, .ref (a 0))]) rfl ?_
  have fn24 := hW.n24; have fm60 := hW.m60; have fk2 := hW.k2; have fu1 := hW.u1; have fu9 := hW.u9; have fv1 := hW.v1; have fv9 := hW.v9
  refine xaload_n C 0 rfl dX5_refusalUnlessSmall_0 ?_
  refine gX5_21 C dX5_refusalUnlessSmall_1 ?_
  refine gX5_101 C dX5_refusalUnlessSmall_4 ?_
  refine xtopi (y := nI (bn (GoodP K))) (hgd) ?_
  refine xif_neN C 13 dX5_refusalUnlessSmall_7 (by decide) (bn_lt _) (fun h7 => ?_) (fun h7 => ?_)
  ·
    refine xaload_n C 0 rfl dX5_refusalUnlessSmall_13 ?_
    refine gX5_46 C dX5_refusalUnlessSmall_14 ?_
    refine xcVR C (c_X3_isSmall hK hW) yk_X3_isSmall 5 rfl rfl xml_X5_201 ⟨⟨Nat.le_of_ble_eq_true rfl, Nat.le_of_ble_eq_true rfl⟩, ⟨rfl, rfl⟩, ⟨Nat.zero_le _, Nat.zero_le _⟩⟩ rfl (Nat.le_of_ble_eq_true rfl) dX5_refusalUnlessSmall_17 ?_
    refine xif_eqN C 27 dX5_refusalUnlessSmall_20 (by decide) (bn_lt _) (fun h20 => ?_) (fun h20 => ?_)
    ·
      refine xbipush (v := -4) C dX5_refusalUnlessSmall_27 (by decide) ?_
      exact xret C hR (rfl) dX5_refusalUnlessSmall_29 (⟨_, rfl, rfl, Or.inr (Or.inl ⟨bn_1 h7, bn_0 h20, rfl⟩)⟩)
    ·
      refine xiconst (v := nI 0) C dX5_refusalUnlessSmall_23 (by decide) ?_
      refine xgoto C 29 dX5_refusalUnlessSmall_24 (by decide) ?_
      exact xret C hR (rfl) dX5_refusalUnlessSmall_29 (⟨_, rfl, rfl, Or.inr (Or.inr ⟨bn_1 h7, bn_1 h20, rfl⟩)⟩)
  ·
    refine xbipush (v := -5) C dX5_refusalUnlessSmall_10 (by decide) ?_
    exact xret C hR (rfl) dX5_refusalUnlessSmall_12 (⟨_, rfl, rfl, Or.inl ⟨bn_0 h7, rfl⟩⟩)
theorem dX5_isNoPart_0 : decode cX5_isNoPart 0 = .ok (.iload_n 0, 1) := by decide +kernel
theorem dX5_isNoPart_1 : decode cX5_isNoPart 1 = .ok (.ifCond .lt 8, 3) := by decide +kernel
theorem dX5_isNoPart_4 : decode cX5_isNoPart 4 = .ok (.iload_n 0, 1) := by decide +kernel
theorem dX5_isNoPart_5 : decode cX5_isNoPart 5 = .ok (.iconst 1, 1) := by decide +kernel
theorem dX5_isNoPart_6 : decode cX5_isNoPart 6 = .ok (.if_icmp .le 7, 3) := by decide +kernel
theorem dX5_isNoPart_9 : decode cX5_isNoPart 9 = .ok (.iconst 1, 1) := by decide +kernel
theorem dX5_isNoPart_10 : decode cX5_isNoPart 10 = .ok (.goto 4, 3) := by decide +kernel
theorem dX5_isNoPart_13 : decode cX5_isNoPart 13 = .ok (.iconst 0, 1) := by decide +kernel
theorem dX5_isNoPart_14 : decode cX5_isNoPart 14 = .ok (.ireturn, 1) := by decide +kernel
def rX5_isNoPart : Room := { frames := 0, cells := 0, slots := 0, locals := 0 }
theorem sk_X5_isNoPart : SK yX5_isNoPart cX5_isNoPart 1 (some .boolean) 1 := ⟨xst_X5_isNoPart, xin_X5, xco_X5_isNoPart, by decide +kernel⟩
set_option maxRecDepth 4000 in
theorem c_X5_isNoPart {l : Launch} {D : va_G} {t : Nat → ClassId} {a : Nat → Nat} {I : Nat → Int32} {F : Nat → Nat → Int32} {L : Nat → Int64} (x : Int32) : CT l D t yX5_isNoPart cX5_isNoPart 1 (some .boolean) rX5_isNoPart 0 0 [.int x] (WX a t I F L) (RP (.int (nI (bn (x < 0 ∨ 1 < x)))) (WX a t I F L)) := by
  refine CT.of (by decide +kernel) (by simp [lg_sl, Value.category]) (fun X C hR => ?_)
  refine xlocals (lv' := [(0, .int x)]) rfl ?_
  refine xiload_n C 0 rfl dX5_isNoPart_0 ?_
  refine xif_lt C 9 dX5_isNoPart_1 (by decide) (fun h1 => ?_) (fun h1 => ?_)
  ·
    refine xiconst (v := nI 1) C dX5_isNoPart_9 (by decide) ?_
    refine xgoto C 14 dX5_isNoPart_10 (by decide) ?_
    exact xret C hR (by rfl) dX5_isNoPart_14 (RPn ((bn_t (Or.inl h1)).symm))
  ·
    refine xiload_n C 0 rfl dX5_isNoPart_4 ?_
    refine xiconst (v := 1) C dX5_isNoPart_5 (by decide) ?_
    refine xicmp_le C 13 dX5_isNoPart_6 (by decide) (fun h6 => ?_) (fun h6 => ?_)
    ·
      refine xiconst (v := nI 0) C dX5_isNoPart_13 (by decide) ?_
      exact xret C hR (by rfl) dX5_isNoPart_14 (RPn ((bn_f (fun q => q.elim h1 (fun q => absurd q (Int32.not_lt.mpr h6)))).symm))
    ·
      refine xiconst (v := nI 1) C dX5_isNoPart_9 (by decide) ?_
      refine xgoto C 14 dX5_isNoPart_10 (by decide) ?_
      exact xret C hR (by rfl) dX5_isNoPart_14 (RPn ((bn_t (Or.inr (Int32.not_le.mp h6))).symm))
theorem dX5_many_0 : decode cX5_many 0 = .ok (.aload_n 0, 1) := by decide +kernel
theorem dX5_many_1 : decode cX5_many 1 = .ok (.invokevirtual 161, 3) := by decide +kernel
theorem dX5_many_4 : decode cX5_many 4 = .ok (.istore_n 1, 1) := by decide +kernel
theorem dX5_many_5 : decode cX5_many 5 = .ok (.iload_n 1, 1) := by decide +kernel
theorem dX5_many_6 : decode cX5_many 6 = .ok (.ifCond .eq 7, 3) := by decide +kernel
theorem dX5_many_9 : decode cX5_many 9 = .ok (.iload_n 1, 1) := by decide +kernel
theorem dX5_many_10 : decode cX5_many 10 = .ok (.goto 14, 3) := by decide +kernel
theorem dX5_many_13 : decode cX5_many 13 = .ok (.aload_n 0, 1) := by decide +kernel
theorem dX5_many_14 : decode cX5_many 14 = .ok (.getfield 46, 3) := by decide +kernel
theorem dX5_many_17 : decode cX5_many 17 = .ok (.iconst 0, 1) := by decide +kernel
theorem dX5_many_18 : decode cX5_many 18 = .ok (.iconst 0, 1) := by decide +kernel
theorem dX5_many_19 : decode cX5_many 19 = .ok (.iconst 0, 1) := by decide +kernel
theorem dX5_many_20 : decode cX5_many 20 = .ok (.invokevirtual 164, 3) := by decide +kernel
theorem dX5_many_23 : decode cX5_many 23 = .ok (.l2i, 1) := by decide +kernel
theorem dX5_many_24 : decode cX5_many 24 = .ok (.ireturn, 1) := by decide +kernel
def rX5_many : Room := { frames := 5, cells := 0, slots := 0, locals := 120 }
theorem yk_X5_many : YK yX5_many cX5_many 2 (some .int) 0 := ⟨xim_X5_many, xse_X5_many, xin_X5, xco_X5_many, by decide +kernel⟩
set_option maxRecDepth 4000 in
theorem c_X5_many {l : Launch} {D : va_G} {t : Nat → ClassId} {a : Nat → Nat} {I : Nat → Int32} {F : Nat → Nat → Int32} {L : Nat → Int64} {K : Cfg} {sd : Int32} {hd : Nat → Nat} {dk : Bool} {dw : Nat → Nat} {mt : Int32} (hI : INV (K, sd, hd, dk, dw, mt)) (hX : RX (K, sd, hd, dk, dw, mt) I F)  : CT l D t yX5_many cX5_many 2 (some .int) rX5_many 0 0 [.ref (a 0)] (WX a t I F L) (XO a t (opMany (K, sd, hd, dk, dw, mt))) := by
  refine CT.of (by decide +kernel) (by simp [lg_sl, Value.category]) (fun X C hR => ?_)
  refine xlocals (lv' := [(0, .ref (a 0))]) rfl ?_
  obtain ⟨hK, hsd, hHd, hdk, hdr, hgd, hHS, hLS⟩ := id hX
  have hW : WFK K := hI.1
  have hrg := hI.2.1
  have fn24 := hW.n24; have fm60 := hW.m60; have fk2 := hW.k2; have fu1 := hW.u1; have fu9 := hW.u9; have fv1 := hW.v1; have fv9 := hW.v9
  refine xaload_n C 0 rfl dX5_many_0 ?_
  refine xcVE C (c_X5_refusalUnlessSmall hK hW hgd) yk_X5_refusalUnlessSmall 0 rfl rfl xml_X5_161 ⟨⟨Nat.le_of_ble_eq_true rfl, Nat.le_of_ble_eq_true rfl⟩, ⟨rfl, rfl⟩, ⟨Nat.zero_le _, Nat.zero_le _⟩⟩ rfl (Nat.le_of_ble_eq_true rfl) dX5_many_1 (fun vE wE hE => ?_)
  obtain ⟨rfl, hor⟩ := hE
  rcases hor with ⟨hg, rfl⟩ | ⟨hg, hsm, rfl⟩ | ⟨hg, hsm, rfl⟩
  ·
    refine xistore_n (lv' := [(1, .int (-5)), (0, .ref (a 0))]) C dX5_many_4 (by decide) rfl ?_
    refine xiload_n C 0 rfl dX5_many_5 ?_
    refine xif_eq C 13 dX5_many_6 (by decide) (fun h6 => ?_) (fun h6 => ?_)
    · exact absurd h6 (by decide)
    ·
      refine xiload_n C 0 rfl dX5_many_9 ?_
      refine xgoto C 24 dX5_many_10 (by decide) ?_
      exact xret C hR (rfl) dX5_many_24 (XO.mk (by simp only [opMany]; rw [ci_t hg]) hX)
  ·
    refine xistore_n (lv' := [(1, .int (-4)), (0, .ref (a 0))]) C dX5_many_4 (by decide) rfl ?_
    refine xiload_n C 0 rfl dX5_many_5 ?_
    refine xif_eq C 13 dX5_many_6 (by decide) (fun h6 => ?_) (fun h6 => ?_)
    · exact absurd h6 (by decide)
    ·
      refine xiload_n C 0 rfl dX5_many_9 ?_
      refine xgoto C 24 dX5_many_10 (by decide) ?_
      exact xret C hR (rfl) dX5_many_24 (XO.mk (by simp only [opMany]; rw [ci_f (fun q => q hg), ci_t hsm]) hX)
  ·
    refine xistore_n (lv' := [(1, .int (nI 0)), (0, .ref (a 0))]) C dX5_many_4 (by decide) rfl ?_
    refine xiload_n C 0 rfl dX5_many_5 ?_
    refine xif_eqN C 13 dX5_many_6 (by decide) (by omega) (fun h6 => ?_) (fun h6 => ?_)
    ·
      refine xaload_n C 1 rfl dX5_many_13 ?_
      refine gX5_46 C dX5_many_14 ?_
      refine xiconst (v := nI 0) C dX5_many_17 (by decide) ?_
      refine xiconst (v := nI 0) C dX5_many_18 (by decide) ?_
      refine xiconst (v := nI 0) C dX5_many_19 (by decide) ?_
      have hn : 0 < kn K := hg.1
      have hs := hsm
      refine xcVE C (c_X3_sumOf hK hW hs 0 0 0 (by omega) (by omega) (by omega)) yk_X3_sumOf 5 rfl rfl xml_X5_164 ⟨⟨Nat.le_of_ble_eq_true rfl, Nat.le_of_ble_eq_true rfl⟩, ⟨rfl, rfl⟩, ⟨Nat.zero_le _, Nat.zero_le _⟩⟩ rfl (Nat.le_of_ble_eq_true rfl) dX5_many_20 (fun vE wE hE => ?_)
      obtain ⟨rfl, FA, rfl, hFA⟩ := hE
      refine xl2i C dX5_many_23 ?_
      refine xtopi (y := nI (suN K 0 0 0)) (lN_i _) ?_
      exact xret C hR (rfl) dX5_many_24 (XO.mk (by simp only [opMany]; rw [ci_f (fun q => q hg), ci_f (fun q => q hsm)]) (hX.of (fun _ _ _ => rfl) (fun q h1 h2 h3 => hFA q h3)))
    · exact absurd rfl h6
theorem dX5_all_0 : decode cX5_all 0 = .ok (.aload_n 0, 1) := by decide +kernel
theorem dX5_all_1 : decode cX5_all 1 = .ok (.invokevirtual 161, 3) := by decide +kernel
theorem dX5_all_4 : decode cX5_all 4 = .ok (.istore_n 1, 1) := by decide +kernel
theorem dX5_all_5 : decode cX5_all 5 = .ok (.iload_n 1, 1) := by decide +kernel
theorem dX5_all_6 : decode cX5_all 6 = .ok (.ifCond .eq 8, 3) := by decide +kernel
theorem dX5_all_9 : decode cX5_all 9 = .ok (.iload_n 1, 1) := by decide +kernel
theorem dX5_all_10 : decode cX5_all 10 = .ok (.i2l, 1) := by decide +kernel
theorem dX5_all_11 : decode cX5_all 11 = .ok (.goto 13, 3) := by decide +kernel
theorem dX5_all_14 : decode cX5_all 14 = .ok (.aload_n 0, 1) := by decide +kernel
theorem dX5_all_15 : decode cX5_all 15 = .ok (.getfield 46, 3) := by decide +kernel
theorem dX5_all_18 : decode cX5_all 18 = .ok (.iconst 1, 1) := by decide +kernel
theorem dX5_all_19 : decode cX5_all 19 = .ok (.iconst 0, 1) := by decide +kernel
theorem dX5_all_20 : decode cX5_all 20 = .ok (.iconst 0, 1) := by decide +kernel
theorem dX5_all_21 : decode cX5_all 21 = .ok (.invokevirtual 164, 3) := by decide +kernel
theorem dX5_all_24 : decode cX5_all 24 = .ok (.lreturn, 1) := by decide +kernel
def rX5_all : Room := { frames := 5, cells := 0, slots := 0, locals := 120 }
theorem yk_X5_all : YK yX5_all cX5_all 2 (some .long) 0 := ⟨xim_X5_all, xse_X5_all, xin_X5, xco_X5_all, by decide +kernel⟩
set_option maxRecDepth 4000 in
theorem c_X5_all {l : Launch} {D : va_G} {t : Nat → ClassId} {a : Nat → Nat} {I : Nat → Int32} {F : Nat → Nat → Int32} {L : Nat → Int64} {K : Cfg} {sd : Int32} {hd : Nat → Nat} {dk : Bool} {dw : Nat → Nat} {mt : Int32} (hI : INV (K, sd, hd, dk, dw, mt)) (hX : RX (K, sd, hd, dk, dw, mt) I F)  : CT l D t yX5_all cX5_all 2 (some .long) rX5_all 0 0 [.ref (a 0)] (WX a t I F L) (XO a t (opAll (K, sd, hd, dk, dw, mt))) := by
  refine CT.of (by decide +kernel) (by simp [lg_sl, Value.category]) (fun X C hR => ?_)
  refine xlocals (lv' := [(0, .ref (a 0))]) rfl ?_
  obtain ⟨hK, hsd, hHd, hdk, hdr, hgd, hHS, hLS⟩ := id hX
  have hW : WFK K := hI.1
  have hrg := hI.2.1
  have fn24 := hW.n24; have fm60 := hW.m60; have fk2 := hW.k2; have fu1 := hW.u1; have fu9 := hW.u9; have fv1 := hW.v1; have fv9 := hW.v9
  refine xaload_n C 0 rfl dX5_all_0 ?_
  refine xcVE C (c_X5_refusalUnlessSmall hK hW hgd) yk_X5_refusalUnlessSmall 0 rfl rfl xml_X5_161 ⟨⟨Nat.le_of_ble_eq_true rfl, Nat.le_of_ble_eq_true rfl⟩, ⟨rfl, rfl⟩, ⟨Nat.zero_le _, Nat.zero_le _⟩⟩ rfl (Nat.le_of_ble_eq_true rfl) dX5_all_1 (fun vE wE hE => ?_)
  obtain ⟨rfl, hor⟩ := hE
  rcases hor with ⟨hg, rfl⟩ | ⟨hg, hsm, rfl⟩ | ⟨hg, hsm, rfl⟩
  ·
    refine xistore_n (lv' := [(1, .int (-5)), (0, .ref (a 0))]) C dX5_all_4 (by decide) rfl ?_
    refine xiload_n C 0 rfl dX5_all_5 ?_
    refine xif_eq C 14 dX5_all_6 (by decide) (fun h6 => ?_) (fun h6 => ?_)
    · exact absurd h6 (by decide)
    ·
      refine xiload_n C 0 rfl dX5_all_9 ?_
      refine xi2l C dX5_all_10 ?_
      refine xtopl (y := -5) (by decide +kernel) ?_
      refine xgoto C 24 dX5_all_11 (by decide) ?_
      exact xlret C hR dX5_all_24 (XO.mk (by simp only [opAll]; rw [ci_t hg]) hX)
  ·
    refine xistore_n (lv' := [(1, .int (-4)), (0, .ref (a 0))]) C dX5_all_4 (by decide) rfl ?_
    refine xiload_n C 0 rfl dX5_all_5 ?_
    refine xif_eq C 14 dX5_all_6 (by decide) (fun h6 => ?_) (fun h6 => ?_)
    · exact absurd h6 (by decide)
    ·
      refine xiload_n C 0 rfl dX5_all_9 ?_
      refine xi2l C dX5_all_10 ?_
      refine xtopl (y := -4) (by decide +kernel) ?_
      refine xgoto C 24 dX5_all_11 (by decide) ?_
      exact xlret C hR dX5_all_24 (XO.mk (by simp only [opAll]; rw [ci_f (fun q => q hg), ci_t hsm]) hX)
  ·
    refine xistore_n (lv' := [(1, .int (nI 0)), (0, .ref (a 0))]) C dX5_all_4 (by decide) rfl ?_
    refine xiload_n C 0 rfl dX5_all_5 ?_
    refine xif_eqN C 14 dX5_all_6 (by decide) (by omega) (fun h6 => ?_) (fun h6 => ?_)
    ·
      refine xaload_n C 1 rfl dX5_all_14 ?_
      refine gX5_46 C dX5_all_15 ?_
      refine xiconst (v := nI 1) C dX5_all_18 (by decide) ?_
      refine xiconst (v := nI 0) C dX5_all_19 (by decide) ?_
      refine xiconst (v := nI 0) C dX5_all_20 (by decide) ?_
      have hn : 0 < kn K := hg.1
      have hs := hsm
      refine xcVE C (c_X3_sumOf hK hW hs 1 0 0 (by omega) (by omega) (by omega)) yk_X3_sumOf 5 rfl rfl xml_X5_164 ⟨⟨Nat.le_of_ble_eq_true rfl, Nat.le_of_ble_eq_true rfl⟩, ⟨rfl, rfl⟩, ⟨Nat.zero_le _, Nat.zero_le _⟩⟩ rfl (Nat.le_of_ble_eq_true rfl) dX5_all_21 (fun vE wE hE => ?_)
      obtain ⟨rfl, FA, rfl, hFA⟩ := hE
      exact xlret C hR dX5_all_24 (XO.mk (by simp only [opAll]; rw [ci_f (fun q => q hg), ci_f (fun q => q hsm)]) (hX.of (fun _ _ _ => rfl) (fun q h1 h2 h3 => hFA q h3)))
    · exact absurd rfl h6
theorem dX5_chance_0 : decode cX5_chance 0 = .ok (.iload_n 1, 1) := by decide +kernel
theorem dX5_chance_1 : decode cX5_chance 1 = .ok (.invokestatic 168, 3) := by decide +kernel
theorem dX5_chance_4 : decode cX5_chance 4 = .ok (.ifCond .eq 7, 3) := by decide +kernel
theorem dX5_chance_7 : decode cX5_chance 7 = .ok (.ldc2_w 171, 3) := by decide +kernel
theorem dX5_chance_10 : decode cX5_chance 10 = .ok (.lreturn, 1) := by decide +kernel
theorem dX5_chance_11 : decode cX5_chance 11 = .ok (.aload_n 0, 1) := by decide +kernel
theorem dX5_chance_12 : decode cX5_chance 12 = .ok (.invokevirtual 161, 3) := by decide +kernel
theorem dX5_chance_15 : decode cX5_chance 15 = .ok (.istore_n 2, 1) := by decide +kernel
theorem dX5_chance_16 : decode cX5_chance 16 = .ok (.iload_n 2, 1) := by decide +kernel
theorem dX5_chance_17 : decode cX5_chance 17 = .ok (.ifCond .eq 8, 3) := by decide +kernel
theorem dX5_chance_20 : decode cX5_chance 20 = .ok (.iload_n 2, 1) := by decide +kernel
theorem dX5_chance_21 : decode cX5_chance 21 = .ok (.i2l, 1) := by decide +kernel
theorem dX5_chance_22 : decode cX5_chance 22 = .ok (.goto 22, 3) := by decide +kernel
theorem dX5_chance_25 : decode cX5_chance 25 = .ok (.aload_n 0, 1) := by decide +kernel
theorem dX5_chance_26 : decode cX5_chance 26 = .ok (.getfield 46, 3) := by decide +kernel
theorem dX5_chance_29 : decode cX5_chance 29 = .ok (.aload_n 0, 1) := by decide +kernel
theorem dX5_chance_30 : decode cX5_chance 30 = .ok (.getfield 21, 3) := by decide +kernel
theorem dX5_chance_33 : decode cX5_chance 33 = .ok (.aload_n 0, 1) := by decide +kernel
theorem dX5_chance_34 : decode cX5_chance 34 = .ok (.getfield 50, 3) := by decide +kernel
theorem dX5_chance_37 : decode cX5_chance 37 = .ok (.invokevirtual 173, 3) := by decide +kernel
theorem dX5_chance_40 : decode cX5_chance 40 = .ok (.iload_n 1, 1) := by decide +kernel
theorem dX5_chance_41 : decode cX5_chance 41 = .ok (.invokevirtual 177, 3) := by decide +kernel
theorem dX5_chance_44 : decode cX5_chance 44 = .ok (.lreturn, 1) := by decide +kernel
def rX5_chance : Room := { frames := 6, cells := 0, slots := 0, locals := 147 }
theorem yk_X5_chance : YK yX5_chance cX5_chance 3 (some .long) 1 := ⟨xim_X5_chance, xse_X5_chance, xin_X5, xco_X5_chance, by decide +kernel⟩
set_option maxRecDepth 4000 in
theorem c_X5_chance {l : Launch} {D : va_G} {t : Nat → ClassId} {a : Nat → Nat} {I : Nat → Int32} {F : Nat → Nat → Int32} {L : Nat → Int64} {K : Cfg} {sd : Int32} {hd : Nat → Nat} {dk : Bool} {dw : Nat → Nat} {mt : Int32} (hI : INV (K, sd, hd, dk, dw, mt)) (hX : RX (K, sd, hd, dk, dw, mt) I F) (y : Int32) : CT l D t yX5_chance cX5_chance 3 (some .long) rX5_chance 0 0 [.ref (a 0), .int y] (WX a t I F L) (XO a t (opChance (K, sd, hd, dk, dw, mt) y)) := by
  refine CT.of (by decide +kernel) (by simp [lg_sl, Value.category]) (fun X C hR => ?_)
  refine xlocals (lv' := [(0, .ref (a 0)), (1, .int y)]) rfl ?_
  obtain ⟨hK, hsd, hHd, hdk, hdr, hgd, hHS, hLS⟩ := id hX
  have hW : WFK K := hI.1
  have hrg := hI.2.1
  have fn24 := hW.n24; have fm60 := hW.m60; have fk2 := hW.k2; have fu1 := hW.u1; have fu9 := hW.u9; have fv1 := hW.v1; have fv9 := hW.v9
  refine xiload_n C 1 rfl dX5_chance_0 ?_
  refine xcSR C (c_X5_isNoPart y) sk_X5_isNoPart xml_X5_168 ⟨⟨Nat.le_of_ble_eq_true rfl, Nat.le_of_ble_eq_true rfl⟩, ⟨rfl, rfl⟩, ⟨Nat.zero_le _, Nat.zero_le _⟩⟩ rfl (Nat.le_of_ble_eq_true rfl) dX5_chance_1 ?_
  refine xif_eqN C 11 dX5_chance_4 (by decide) (bn_lt _) (fun h4 => ?_) (fun h4 => ?_)
  ·
    obtain ⟨w, hw1, rfl⟩ := box01 (fun q => bn_0 h4 (Or.inl q)) (fun q => bn_0 h4 (Or.inr q))
    refine xaload_n C 0 rfl dX5_chance_11 ?_
    refine xcVE C (c_X5_refusalUnlessSmall hK hW hgd) yk_X5_refusalUnlessSmall 0 rfl rfl xml_X5_161 ⟨⟨Nat.le_of_ble_eq_true rfl, Nat.le_of_ble_eq_true rfl⟩, ⟨rfl, rfl⟩, ⟨Nat.zero_le _, Nat.zero_le _⟩⟩ rfl (Nat.le_of_ble_eq_true rfl) dX5_chance_12 (fun vE wE hE => ?_)
    obtain ⟨rfl, hor⟩ := hE
    rcases hor with ⟨hg, rfl⟩ | ⟨hg, hsm, rfl⟩ | ⟨hg, hsm, rfl⟩
    ·
      refine xistore_n (lv' := [(2, .int (-5)), (0, .ref (a 0)), (1, .int (nI w))]) C dX5_chance_15 (by decide) rfl ?_
      refine xiload_n C 0 rfl dX5_chance_16 ?_
      refine xif_eq C 25 dX5_chance_17 (by decide) (fun h17 => ?_) (fun h17 => ?_)
      · exact absurd h17 (by decide)
      ·
        refine xiload_n C 0 rfl dX5_chance_20 ?_
        refine xi2l C dX5_chance_21 ?_
        refine xtopl (y := -5) (by decide +kernel) ?_
        refine xgoto C 44 dX5_chance_22 (by decide) ?_
        exact xlret C hR dX5_chance_44 (XO.mk (by simp only [opChance]; rw [ci_f (bn_0 h4), ci_t hg]) hX)
    ·
      refine xistore_n (lv' := [(2, .int (-4)), (0, .ref (a 0)), (1, .int (nI w))]) C dX5_chance_15 (by decide) rfl ?_
      refine xiload_n C 0 rfl dX5_chance_16 ?_
      refine xif_eq C 25 dX5_chance_17 (by decide) (fun h17 => ?_) (fun h17 => ?_)
      · exact absurd h17 (by decide)
      ·
        refine xiload_n C 0 rfl dX5_chance_20 ?_
        refine xi2l C dX5_chance_21 ?_
        refine xtopl (y := -4) (by decide +kernel) ?_
        refine xgoto C 44 dX5_chance_22 (by decide) ?_
        exact xlret C hR dX5_chance_44 (XO.mk (by simp only [opChance]; rw [ci_f (bn_0 h4), ci_f (fun q => q hg), ci_t hsm]) hX)
    ·
      refine xistore_n (lv' := [(2, .int (nI 0)), (0, .ref (a 0)), (1, .int (nI w))]) C dX5_chance_15 (by decide) rfl ?_
      refine xiload_n C 0 rfl dX5_chance_16 ?_
      refine xif_eqN C 25 dX5_chance_17 (by decide) (by omega) (fun h17 => ?_) (fun h17 => ?_)
      ·
        refine xaload_n C 1 rfl dX5_chance_25 ?_
        refine gX5_46 C dX5_chance_26 ?_
        refine xaload_n C 1 rfl dX5_chance_29 ?_
        refine gX5_21 C dX5_chance_30 ?_
        refine xaload_n C 1 rfl dX5_chance_33 ?_
        refine gX5_50 C dX5_chance_34 ?_
        refine xcVR C (c_X2_weightOf hK hW 12 (by omega) (by omega) hHd) yk_X2_weightOf 2 rfl rfl xml_X5_173 ⟨⟨Nat.le_of_ble_eq_true rfl, Nat.le_of_ble_eq_true rfl⟩, ⟨rfl, rfl⟩, ⟨Nat.zero_le _, Nat.zero_le _⟩⟩ rfl (Nat.le_of_ble_eq_true rfl) dX5_chance_37 ?_
        refine xiload_n C 2 rfl dX5_chance_40 ?_
        have hn : 0 < kn K := hg.1
        have hs := hsm
        have hpos : 0 < suN K 1 0 0 := suN_pos hW hg (hI.2.2.1 hg)
        refine xcVE C (c_X3_share hK hW hs hn hpos (woN K hd) w (Nat.lt_of_le_of_lt (woN_le hW hsm hd) (by decide)) (by omega)) yk_X3_share 5 rfl rfl xml_X5_177 ⟨⟨Nat.le_of_ble_eq_true rfl, Nat.le_of_ble_eq_true rfl⟩, ⟨rfl, rfl⟩, ⟨Nat.zero_le _, Nat.zero_le _⟩⟩ rfl (Nat.le_of_ble_eq_true rfl) dX5_chance_41 (fun vE wE hE => ?_)
        obtain ⟨rfl, FB, rfl, hFB⟩ := hE
        exact xlret C hR dX5_chance_44 (XO.mk (by simp only [opChance]; rw [ci_f (bn_0 h4), ci_f (fun q => q hg), ci_f (fun q => q hsm), shN_nat hw1]) (hX.of (fun _ _ _ => rfl) (fun q h1 h2 h3 => hFB q h3)))
      · exact absurd rfl h17
  ·
    refine xldc2 C dX5_chance_7 xcn_X5_171 ?_
    exact xlret C hR dX5_chance_10 (XO.mk (by simp only [opChance]; rw [ci_t (bn_1 h4)]) hX)
theorem dX5_mean_0 : decode cX5_mean 0 = .ok (.aload_n 0, 1) := by decide +kernel
theorem dX5_mean_1 : decode cX5_mean 1 = .ok (.getfield 10, 3) := by decide +kernel
theorem dX5_mean_4 : decode cX5_mean 4 = .ok (.iload_n 1, 1) := by decide +kernel
theorem dX5_mean_5 : decode cX5_mean 5 = .ok (.invokevirtual 68, 3) := by decide +kernel
theorem dX5_mean_8 : decode cX5_mean 8 = .ok (.ifCond .ne 7, 3) := by decide +kernel
theorem dX5_mean_11 : decode cX5_mean 11 = .ok (.ldc2_w 181, 3) := by decide +kernel
theorem dX5_mean_14 : decode cX5_mean 14 = .ok (.lreturn, 1) := by decide +kernel
theorem dX5_mean_15 : decode cX5_mean 15 = .ok (.iload_n 2, 1) := by decide +kernel
theorem dX5_mean_16 : decode cX5_mean 16 = .ok (.invokestatic 168, 3) := by decide +kernel
theorem dX5_mean_19 : decode cX5_mean 19 = .ok (.ifCond .eq 7, 3) := by decide +kernel
theorem dX5_mean_22 : decode cX5_mean 22 = .ok (.ldc2_w 171, 3) := by decide +kernel
theorem dX5_mean_25 : decode cX5_mean 25 = .ok (.lreturn, 1) := by decide +kernel
theorem dX5_mean_26 : decode cX5_mean 26 = .ok (.aload_n 0, 1) := by decide +kernel
theorem dX5_mean_27 : decode cX5_mean 27 = .ok (.invokevirtual 161, 3) := by decide +kernel
theorem dX5_mean_30 : decode cX5_mean 30 = .ok (.istore_n 3, 1) := by decide +kernel
theorem dX5_mean_31 : decode cX5_mean 31 = .ok (.iload_n 3, 1) := by decide +kernel
theorem dX5_mean_32 : decode cX5_mean 32 = .ok (.ifCond .eq 8, 3) := by decide +kernel
theorem dX5_mean_35 : decode cX5_mean 35 = .ok (.iload_n 3, 1) := by decide +kernel
theorem dX5_mean_36 : decode cX5_mean 36 = .ok (.i2l, 1) := by decide +kernel
theorem dX5_mean_37 : decode cX5_mean 37 = .ok (.goto 21, 3) := by decide +kernel
theorem dX5_mean_40 : decode cX5_mean 40 = .ok (.aload_n 0, 1) := by decide +kernel
theorem dX5_mean_41 : decode cX5_mean 41 = .ok (.getfield 46, 3) := by decide +kernel
theorem dX5_mean_44 : decode cX5_mean 44 = .ok (.aload_n 0, 1) := by decide +kernel
theorem dX5_mean_45 : decode cX5_mean 45 = .ok (.getfield 46, 3) := by decide +kernel
theorem dX5_mean_48 : decode cX5_mean 48 = .ok (.iconst 2, 1) := by decide +kernel
theorem dX5_mean_49 : decode cX5_mean 49 = .ok (.iload_n 1, 1) := by decide +kernel
theorem dX5_mean_50 : decode cX5_mean 50 = .ok (.iload_n 1, 1) := by decide +kernel
theorem dX5_mean_51 : decode cX5_mean 51 = .ok (.invokevirtual 164, 3) := by decide +kernel
theorem dX5_mean_54 : decode cX5_mean 54 = .ok (.iload_n 2, 1) := by decide +kernel
theorem dX5_mean_55 : decode cX5_mean 55 = .ok (.invokevirtual 177, 3) := by decide +kernel
theorem dX5_mean_58 : decode cX5_mean 58 = .ok (.lreturn, 1) := by decide +kernel
def rX5_mean : Room := { frames := 6, cells := 0, slots := 0, locals := 147 }
theorem yk_X5_mean : YK yX5_mean cX5_mean 4 (some .long) 2 := ⟨xim_X5_mean, xse_X5_mean, xin_X5, xco_X5_mean, by decide +kernel⟩
set_option maxRecDepth 4000 in
theorem c_X5_mean {l : Launch} {D : va_G} {t : Nat → ClassId} {a : Nat → Nat} {I : Nat → Int32} {F : Nat → Nat → Int32} {L : Nat → Int64} {K : Cfg} {sd : Int32} {hd : Nat → Nat} {dk : Bool} {dw : Nat → Nat} {mt : Int32} (hI : INV (K, sd, hd, dk, dw, mt)) (hX : RX (K, sd, hd, dk, dw, mt) I F) (x y : Int32) : CT l D t yX5_mean cX5_mean 4 (some .long) rX5_mean 0 0 [.ref (a 0), .int x, .int y] (WX a t I F L) (XO a t (opMean (K, sd, hd, dk, dw, mt) x y)) := by
  refine CT.of (by decide +kernel) (by simp [lg_sl, Value.category]) (fun X C hR => ?_)
  refine xlocals (lv' := [(0, .ref (a 0)), (1, .int x), (2, .int y)]) rfl ?_
  obtain ⟨hK, hsd, hHd, hdk, hdr, hgd, hHS, hLS⟩ := id hX
  have hW : WFK K := hI.1
  have hrg := hI.2.1
  have fn24 := hW.n24; have fm60 := hW.m60; have fk2 := hW.k2; have fu1 := hW.u1; have fu9 := hW.u9; have fv1 := hW.v1; have fv9 := hW.v9
  refine xaload_n C 0 rfl dX5_mean_0 ?_
  refine gX5_10 C dX5_mean_1 ?_
  refine xiload_n C 1 rfl dX5_mean_4 ?_
  refine xcVR C (c_X1_has hK hW x) yk_X1_has 1 rfl rfl xml_X5_68 ⟨⟨Nat.le_of_ble_eq_true rfl, Nat.le_of_ble_eq_true rfl⟩, ⟨rfl, rfl⟩, ⟨Nat.zero_le _, Nat.zero_le _⟩⟩ rfl (Nat.le_of_ble_eq_true rfl) dX5_mean_5 ?_
  refine xif_neN C 15 dX5_mean_8 (by decide) (bn_lt _) (fun h8 => ?_) (fun h8 => ?_)
  ·
    obtain ⟨p, hp, rfl⟩ := (bn_1 h8).nat hW
    refine xiload_n C 2 rfl dX5_mean_15 ?_
    refine xcSR C (c_X5_isNoPart y) sk_X5_isNoPart xml_X5_168 ⟨⟨Nat.le_of_ble_eq_true rfl, Nat.le_of_ble_eq_true rfl⟩, ⟨rfl, rfl⟩, ⟨Nat.zero_le _, Nat.zero_le _⟩⟩ rfl (Nat.le_of_ble_eq_true rfl) dX5_mean_16 ?_
    refine xif_eqN C 26 dX5_mean_19 (by decide) (bn_lt _) (fun h19 => ?_) (fun h19 => ?_)
    ·
      obtain ⟨w, hw1, rfl⟩ := box01 (fun q => bn_0 h19 (Or.inl q)) (fun q => bn_0 h19 (Or.inr q))
      refine xaload_n C 0 rfl dX5_mean_26 ?_
      refine xcVE C (c_X5_refusalUnlessSmall hK hW hgd) yk_X5_refusalUnlessSmall 0 rfl rfl xml_X5_161 ⟨⟨Nat.le_of_ble_eq_true rfl, Nat.le_of_ble_eq_true rfl⟩, ⟨rfl, rfl⟩, ⟨Nat.zero_le _, Nat.zero_le _⟩⟩ rfl (Nat.le_of_ble_eq_true rfl) dX5_mean_27 (fun vE wE hE => ?_)
      obtain ⟨rfl, hor⟩ := hE
      rcases hor with ⟨hg, rfl⟩ | ⟨hg, hsm, rfl⟩ | ⟨hg, hsm, rfl⟩
      ·
        refine xistore_n (lv' := [(3, .int (-5)), (0, .ref (a 0)), (1, .int (nI p)), (2, .int (nI w))]) C dX5_mean_30 (by decide) rfl ?_
        refine xiload_n C 0 rfl dX5_mean_31 ?_
        refine xif_eq C 40 dX5_mean_32 (by decide) (fun h32 => ?_) (fun h32 => ?_)
        · exact absurd h32 (by decide)
        ·
          refine xiload_n C 0 rfl dX5_mean_35 ?_
          refine xi2l C dX5_mean_36 ?_
          refine xtopl (y := -5) (by decide +kernel) ?_
          refine xgoto C 58 dX5_mean_37 (by decide) ?_
          exact xlret C hR dX5_mean_58 (XO.mk (by simp only [opMean]; rw [ci_f (fun q => q (hasP_nat hW hp)), ci_f (bn_0 h19), ci_t hg]) hX)
      ·
        refine xistore_n (lv' := [(3, .int (-4)), (0, .ref (a 0)), (1, .int (nI p)), (2, .int (nI w))]) C dX5_mean_30 (by decide) rfl ?_
        refine xiload_n C 0 rfl dX5_mean_31 ?_
        refine xif_eq C 40 dX5_mean_32 (by decide) (fun h32 => ?_) (fun h32 => ?_)
        · exact absurd h32 (by decide)
        ·
          refine xiload_n C 0 rfl dX5_mean_35 ?_
          refine xi2l C dX5_mean_36 ?_
          refine xtopl (y := -4) (by decide +kernel) ?_
          refine xgoto C 58 dX5_mean_37 (by decide) ?_
          exact xlret C hR dX5_mean_58 (XO.mk (by simp only [opMean]; rw [ci_f (fun q => q (hasP_nat hW hp)), ci_f (bn_0 h19), ci_f (fun q => q hg), ci_t hsm]) hX)
      ·
        refine xistore_n (lv' := [(3, .int (nI 0)), (0, .ref (a 0)), (1, .int (nI p)), (2, .int (nI w))]) C dX5_mean_30 (by decide) rfl ?_
        refine xiload_n C 0 rfl dX5_mean_31 ?_
        refine xif_eqN C 40 dX5_mean_32 (by decide) (by omega) (fun h32 => ?_) (fun h32 => ?_)
        ·
          refine xaload_n C 1 rfl dX5_mean_40 ?_
          refine gX5_46 C dX5_mean_41 ?_
          refine xaload_n C 1 rfl dX5_mean_44 ?_
          refine gX5_46 C dX5_mean_45 ?_
          refine xiconst (v := nI 2) C dX5_mean_48 (by decide) ?_
          refine xiload_n C 2 rfl dX5_mean_49 ?_
          refine xiload_n C 2 rfl dX5_mean_50 ?_
          have hn : 0 < kn K := hg.1
          have hs := hsm
          refine xcVE C (c_X3_sumOf hK hW hs 2 p p (by omega) (by omega) (by omega)) yk_X3_sumOf 5 rfl rfl xml_X5_164 ⟨⟨Nat.le_of_ble_eq_true rfl, Nat.le_of_ble_eq_true rfl⟩, ⟨rfl, rfl⟩, ⟨Nat.zero_le _, Nat.zero_le _⟩⟩ rfl (Nat.le_of_ble_eq_true rfl) dX5_mean_51 (fun vE wE hE => ?_)
          obtain ⟨rfl, FA, rfl, hFA⟩ := hE
          have hKA : CFG K I FA := hK.of (fun _ _ => rfl) (fun q hq => hFA q (by omega))
          refine xiload_n C 3 rfl dX5_mean_54 ?_
          have hn : 0 < kn K := hg.1
          have hs := hsm
          have hpos : 0 < suN K 1 0 0 := suN_pos hW hg (hI.2.2.1 hg)
          refine xcVE C (c_X3_share hKA hW hs hn hpos (suN K 2 p p) w (suN_lt hW hsm 2 p hp) (by omega)) yk_X3_share 5 rfl rfl xml_X5_177 ⟨⟨Nat.le_of_ble_eq_true rfl, Nat.le_of_ble_eq_true rfl⟩, ⟨rfl, rfl⟩, ⟨Nat.zero_le _, Nat.zero_le _⟩⟩ rfl (Nat.le_of_ble_eq_true rfl) dX5_mean_55 (fun vE wE hE => ?_)
          obtain ⟨rfl, FB, rfl, hFB⟩ := hE
          exact xlret C hR dX5_mean_58 (XO.mk (by simp only [opMean]; rw [ci_f (fun q => q (hasP_nat hW hp)), ci_f (bn_0 h19), ci_f (fun q => q hg), ci_f (fun q => q hsm), show cl (nI p) = p from nI_clamp (by omega), shN_nat hw1]) (hX.of (fun _ _ _ => rfl) (fun q h1 h2 h3 => (hFB q h3).trans (hFA q h3))))
        · exact absurd rfl h32
    ·
      refine xldc2 C dX5_mean_22 xcn_X5_171 ?_
      exact xlret C hR dX5_mean_25 (XO.mk (by simp only [opMean]; rw [ci_f (fun q => q (hasP_nat hW hp)), ci_t (bn_1 h19)]) hX)
  ·
    have h8 := bn_0 h8
    refine xldc2 C dX5_mean_11 xcn_X5_181 ?_
    exact xlret C hR dX5_mean_14 (XO.mk (by simp only [opMean]; rw [ci_t h8]) hX)
theorem dX5_alike_0 : decode cX5_alike 0 = .ok (.aload_n 0, 1) := by decide +kernel
theorem dX5_alike_1 : decode cX5_alike 1 = .ok (.getfield 10, 3) := by decide +kernel
theorem dX5_alike_4 : decode cX5_alike 4 = .ok (.iload_n 1, 1) := by decide +kernel
theorem dX5_alike_5 : decode cX5_alike 5 = .ok (.invokevirtual 68, 3) := by decide +kernel
theorem dX5_alike_8 : decode cX5_alike 8 = .ok (.ifCond .eq 14, 3) := by decide +kernel
theorem dX5_alike_11 : decode cX5_alike 11 = .ok (.aload_n 0, 1) := by decide +kernel
theorem dX5_alike_12 : decode cX5_alike 12 = .ok (.getfield 10, 3) := by decide +kernel
theorem dX5_alike_15 : decode cX5_alike 15 = .ok (.iload_n 2, 1) := by decide +kernel
theorem dX5_alike_16 : decode cX5_alike 16 = .ok (.invokevirtual 68, 3) := by decide +kernel
theorem dX5_alike_19 : decode cX5_alike 19 = .ok (.ifCond .ne 7, 3) := by decide +kernel
theorem dX5_alike_22 : decode cX5_alike 22 = .ok (.ldc2_w 181, 3) := by decide +kernel
theorem dX5_alike_25 : decode cX5_alike 25 = .ok (.lreturn, 1) := by decide +kernel
theorem dX5_alike_26 : decode cX5_alike 26 = .ok (.iload_n 3, 1) := by decide +kernel
theorem dX5_alike_27 : decode cX5_alike 27 = .ok (.invokestatic 168, 3) := by decide +kernel
theorem dX5_alike_30 : decode cX5_alike 30 = .ok (.ifCond .eq 7, 3) := by decide +kernel
theorem dX5_alike_33 : decode cX5_alike 33 = .ok (.ldc2_w 171, 3) := by decide +kernel
theorem dX5_alike_36 : decode cX5_alike 36 = .ok (.lreturn, 1) := by decide +kernel
theorem dX5_alike_37 : decode cX5_alike 37 = .ok (.aload_n 0, 1) := by decide +kernel
theorem dX5_alike_38 : decode cX5_alike 38 = .ok (.invokevirtual 161, 3) := by decide +kernel
theorem dX5_alike_41 : decode cX5_alike 41 = .ok (.istore 4, 2) := by decide +kernel
theorem dX5_alike_43 : decode cX5_alike 43 = .ok (.iload 4, 2) := by decide +kernel
theorem dX5_alike_45 : decode cX5_alike 45 = .ok (.ifCond .eq 9, 3) := by decide +kernel
theorem dX5_alike_48 : decode cX5_alike 48 = .ok (.iload 4, 2) := by decide +kernel
theorem dX5_alike_50 : decode cX5_alike 50 = .ok (.i2l, 1) := by decide +kernel
theorem dX5_alike_51 : decode cX5_alike 51 = .ok (.goto 21, 3) := by decide +kernel
theorem dX5_alike_54 : decode cX5_alike 54 = .ok (.aload_n 0, 1) := by decide +kernel
theorem dX5_alike_55 : decode cX5_alike 55 = .ok (.getfield 46, 3) := by decide +kernel
theorem dX5_alike_58 : decode cX5_alike 58 = .ok (.aload_n 0, 1) := by decide +kernel
theorem dX5_alike_59 : decode cX5_alike 59 = .ok (.getfield 46, 3) := by decide +kernel
theorem dX5_alike_62 : decode cX5_alike 62 = .ok (.iconst 3, 1) := by decide +kernel
theorem dX5_alike_63 : decode cX5_alike 63 = .ok (.iload_n 1, 1) := by decide +kernel
theorem dX5_alike_64 : decode cX5_alike 64 = .ok (.iload_n 2, 1) := by decide +kernel
theorem dX5_alike_65 : decode cX5_alike 65 = .ok (.invokevirtual 164, 3) := by decide +kernel
theorem dX5_alike_68 : decode cX5_alike 68 = .ok (.iload_n 3, 1) := by decide +kernel
theorem dX5_alike_69 : decode cX5_alike 69 = .ok (.invokevirtual 177, 3) := by decide +kernel
theorem dX5_alike_72 : decode cX5_alike 72 = .ok (.lreturn, 1) := by decide +kernel
def rX5_alike : Room := { frames := 6, cells := 0, slots := 0, locals := 147 }
theorem yk_X5_alike : YK yX5_alike cX5_alike 5 (some .long) 3 := ⟨xim_X5_alike, xse_X5_alike, xin_X5, xco_X5_alike, by decide +kernel⟩
set_option maxRecDepth 4000 in
theorem c_X5_alike {l : Launch} {D : va_G} {t : Nat → ClassId} {a : Nat → Nat} {I : Nat → Int32} {F : Nat → Nat → Int32} {L : Nat → Int64} {K : Cfg} {sd : Int32} {hd : Nat → Nat} {dk : Bool} {dw : Nat → Nat} {mt : Int32} (hI : INV (K, sd, hd, dk, dw, mt)) (hX : RX (K, sd, hd, dk, dw, mt) I F) (x z y : Int32) : CT l D t yX5_alike cX5_alike 5 (some .long) rX5_alike 0 0 [.ref (a 0), .int x, .int z, .int y] (WX a t I F L) (XO a t (opAlike (K, sd, hd, dk, dw, mt) x z y)) := by
  refine CT.of (by decide +kernel) (by simp [lg_sl, Value.category]) (fun X C hR => ?_)
  refine xlocals (lv' := [(0, .ref (a 0)), (1, .int x), (2, .int z), (3, .int y)]) rfl ?_
  obtain ⟨hK, hsd, hHd, hdk, hdr, hgd, hHS, hLS⟩ := id hX
  have hW : WFK K := hI.1
  have hrg := hI.2.1
  have fn24 := hW.n24; have fm60 := hW.m60; have fk2 := hW.k2; have fu1 := hW.u1; have fu9 := hW.u9; have fv1 := hW.v1; have fv9 := hW.v9
  refine xaload_n C 0 rfl dX5_alike_0 ?_
  refine gX5_10 C dX5_alike_1 ?_
  refine xiload_n C 1 rfl dX5_alike_4 ?_
  refine xcVR C (c_X1_has hK hW x) yk_X1_has 1 rfl rfl xml_X5_68 ⟨⟨Nat.le_of_ble_eq_true rfl, Nat.le_of_ble_eq_true rfl⟩, ⟨rfl, rfl⟩, ⟨Nat.zero_le _, Nat.zero_le _⟩⟩ rfl (Nat.le_of_ble_eq_true rfl) dX5_alike_5 ?_
  refine xif_eqN C 22 dX5_alike_8 (by decide) (bn_lt _) (fun h8 => ?_) (fun h8 => ?_)
  ·
    have h8 := bn_0 h8
    refine xldc2 C dX5_alike_22 xcn_X5_181 ?_
    exact xlret C hR dX5_alike_25 (XO.mk (by simp only [opAlike]; rw [ci_t (Or.inl h8)]) hX)
  ·
    obtain ⟨p, hp, rfl⟩ := (bn_1 h8).nat hW
    refine xaload_n C 0 rfl dX5_alike_11 ?_
    refine gX5_10 C dX5_alike_12 ?_
    refine xiload_n C 2 rfl dX5_alike_15 ?_
    refine xcVR C (c_X1_has hK hW z) yk_X1_has 1 rfl rfl xml_X5_68 ⟨⟨Nat.le_of_ble_eq_true rfl, Nat.le_of_ble_eq_true rfl⟩, ⟨rfl, rfl⟩, ⟨Nat.zero_le _, Nat.zero_le _⟩⟩ rfl (Nat.le_of_ble_eq_true rfl) dX5_alike_16 ?_
    refine xif_neN C 26 dX5_alike_19 (by decide) (bn_lt _) (fun h19 => ?_) (fun h19 => ?_)
    ·
      obtain ⟨q, hq, rfl⟩ := (bn_1 h19).nat hW
      refine xiload_n C 3 rfl dX5_alike_26 ?_
      refine xcSR C (c_X5_isNoPart y) sk_X5_isNoPart xml_X5_168 ⟨⟨Nat.le_of_ble_eq_true rfl, Nat.le_of_ble_eq_true rfl⟩, ⟨rfl, rfl⟩, ⟨Nat.zero_le _, Nat.zero_le _⟩⟩ rfl (Nat.le_of_ble_eq_true rfl) dX5_alike_27 ?_
      refine xif_eqN C 37 dX5_alike_30 (by decide) (bn_lt _) (fun h30 => ?_) (fun h30 => ?_)
      ·
        obtain ⟨w, hw1, rfl⟩ := box01 (fun q => bn_0 h30 (Or.inl q)) (fun q => bn_0 h30 (Or.inr q))
        refine xaload_n C 0 rfl dX5_alike_37 ?_
        refine xcVE C (c_X5_refusalUnlessSmall hK hW hgd) yk_X5_refusalUnlessSmall 0 rfl rfl xml_X5_161 ⟨⟨Nat.le_of_ble_eq_true rfl, Nat.le_of_ble_eq_true rfl⟩, ⟨rfl, rfl⟩, ⟨Nat.zero_le _, Nat.zero_le _⟩⟩ rfl (Nat.le_of_ble_eq_true rfl) dX5_alike_38 (fun vE wE hE => ?_)
        obtain ⟨rfl, hor⟩ := hE
        rcases hor with ⟨hg, rfl⟩ | ⟨hg, hsm, rfl⟩ | ⟨hg, hsm, rfl⟩
        ·
          refine xistore (lv' := [(4, .int (-5)), (0, .ref (a 0)), (1, .int (nI p)), (2, .int (nI q)), (3, .int (nI w))]) C dX5_alike_41 (by decide) rfl ?_
          refine xiload C 0 rfl dX5_alike_43 ?_
          refine xif_eq C 54 dX5_alike_45 (by decide) (fun h45 => ?_) (fun h45 => ?_)
          · exact absurd h45 (by decide)
          ·
            refine xiload C 0 rfl dX5_alike_48 ?_
            refine xi2l C dX5_alike_50 ?_
            refine xtopl (y := -5) (by decide +kernel) ?_
            refine xgoto C 72 dX5_alike_51 (by decide) ?_
            exact xlret C hR dX5_alike_72 (XO.mk (by simp only [opAlike]; rw [ci_f (fun q => q.elim (fun q => q (hasP_nat hW hp)) (fun q => q (hasP_nat hW hq))), ci_f (bn_0 h30), ci_t hg]) hX)
        ·
          refine xistore (lv' := [(4, .int (-4)), (0, .ref (a 0)), (1, .int (nI p)), (2, .int (nI q)), (3, .int (nI w))]) C dX5_alike_41 (by decide) rfl ?_
          refine xiload C 0 rfl dX5_alike_43 ?_
          refine xif_eq C 54 dX5_alike_45 (by decide) (fun h45 => ?_) (fun h45 => ?_)
          · exact absurd h45 (by decide)
          ·
            refine xiload C 0 rfl dX5_alike_48 ?_
            refine xi2l C dX5_alike_50 ?_
            refine xtopl (y := -4) (by decide +kernel) ?_
            refine xgoto C 72 dX5_alike_51 (by decide) ?_
            exact xlret C hR dX5_alike_72 (XO.mk (by simp only [opAlike]; rw [ci_f (fun q => q.elim (fun q => q (hasP_nat hW hp)) (fun q => q (hasP_nat hW hq))), ci_f (bn_0 h30), ci_f (fun q => q hg), ci_t hsm]) hX)
        ·
          refine xistore (lv' := [(4, .int (nI 0)), (0, .ref (a 0)), (1, .int (nI p)), (2, .int (nI q)), (3, .int (nI w))]) C dX5_alike_41 (by decide) rfl ?_
          refine xiload C 0 rfl dX5_alike_43 ?_
          refine xif_eqN C 54 dX5_alike_45 (by decide) (by omega) (fun h45 => ?_) (fun h45 => ?_)
          ·
            refine xaload_n C 1 rfl dX5_alike_54 ?_
            refine gX5_46 C dX5_alike_55 ?_
            refine xaload_n C 1 rfl dX5_alike_58 ?_
            refine gX5_46 C dX5_alike_59 ?_
            refine xiconst (v := nI 3) C dX5_alike_62 (by decide) ?_
            refine xiload_n C 2 rfl dX5_alike_63 ?_
            refine xiload_n C 3 rfl dX5_alike_64 ?_
            have hn : 0 < kn K := hg.1
            have hs := hsm
            refine xcVE C (c_X3_sumOf hK hW hs 3 p q (by omega) (by omega) (by omega)) yk_X3_sumOf 5 rfl rfl xml_X5_164 ⟨⟨Nat.le_of_ble_eq_true rfl, Nat.le_of_ble_eq_true rfl⟩, ⟨rfl, rfl⟩, ⟨Nat.zero_le _, Nat.zero_le _⟩⟩ rfl (Nat.le_of_ble_eq_true rfl) dX5_alike_65 (fun vE wE hE => ?_)
            obtain ⟨rfl, FA, rfl, hFA⟩ := hE
            have hKA : CFG K I FA := hK.of (fun _ _ => rfl) (fun q hq => hFA q (by omega))
            refine xiload_n C 4 rfl dX5_alike_68 ?_
            have hn : 0 < kn K := hg.1
            have hs := hsm
            have hpos : 0 < suN K 1 0 0 := suN_pos hW hg (hI.2.2.1 hg)
            refine xcVE C (c_X3_share hKA hW hs hn hpos (suN K 3 p q) w (suN_lt hW hsm 3 q hp) (by omega)) yk_X3_share 5 rfl rfl xml_X5_177 ⟨⟨Nat.le_of_ble_eq_true rfl, Nat.le_of_ble_eq_true rfl⟩, ⟨rfl, rfl⟩, ⟨Nat.zero_le _, Nat.zero_le _⟩⟩ rfl (Nat.le_of_ble_eq_true rfl) dX5_alike_69 (fun vE wE hE => ?_)
            obtain ⟨rfl, FB, rfl, hFB⟩ := hE
            exact xlret C hR dX5_alike_72 (XO.mk (by simp only [opAlike]; rw [ci_f (fun q => q.elim (fun q => q (hasP_nat hW hp)) (fun q => q (hasP_nat hW hq))), ci_f (bn_0 h30), ci_f (fun q => q hg), ci_f (fun q => q hsm), show cl (nI p) = p from nI_clamp (by omega), show cl (nI q) = q from nI_clamp (by omega), shN_nat hw1]) (hX.of (fun _ _ _ => rfl) (fun q h1 h2 h3 => (hFB q h3).trans (hFA q h3))))
          · exact absurd rfl h45
      ·
        refine xldc2 C dX5_alike_33 xcn_X5_171 ?_
        exact xlret C hR dX5_alike_36 (XO.mk (by simp only [opAlike]; rw [ci_f (fun q => q.elim (fun q => q (hasP_nat hW hp)) (fun q => q (hasP_nat hW hq))), ci_t (bn_1 h30)]) hX)
    ·
      have h19 := bn_0 h19
      refine xldc2 C dX5_alike_22 xcn_X5_181 ?_
      exact xlret C hR dX5_alike_25 (XO.mk (by simp only [opAlike]; rw [ci_t (Or.inr h19)]) hX)
theorem dX5_told_0 : decode cX5_told 0 = .ok (.iload_n 1, 1) := by decide +kernel
theorem dX5_told_1 : decode cX5_told 1 = .ok (.tableswitch 120 0 7 #[47, 55, 63, 71, 79, 87, 92, 108], 47) := by decide +kernel
theorem dX5_told_48 : decode cX5_told 48 = .ok (.aload_n 0, 1) := by decide +kernel
theorem dX5_told_49 : decode cX5_told 49 = .ok (.getfield 10, 3) := by decide +kernel
theorem dX5_told_52 : decode cX5_told 52 = .ok (.getfield 58, 3) := by decide +kernel
theorem dX5_told_55 : decode cX5_told 55 = .ok (.ireturn, 1) := by decide +kernel
theorem dX5_told_56 : decode cX5_told 56 = .ok (.aload_n 0, 1) := by decide +kernel
theorem dX5_told_57 : decode cX5_told 57 = .ok (.getfield 10, 3) := by decide +kernel
theorem dX5_told_60 : decode cX5_told 60 = .ok (.getfield 72, 3) := by decide +kernel
theorem dX5_told_63 : decode cX5_told 63 = .ok (.ireturn, 1) := by decide +kernel
theorem dX5_told_64 : decode cX5_told 64 = .ok (.aload_n 0, 1) := by decide +kernel
theorem dX5_told_65 : decode cX5_told 65 = .ok (.getfield 21, 3) := by decide +kernel
theorem dX5_told_68 : decode cX5_told 68 = .ok (.getfield 86, 3) := by decide +kernel
theorem dX5_told_71 : decode cX5_told 71 = .ok (.ireturn, 1) := by decide +kernel
theorem dX5_told_72 : decode cX5_told 72 = .ok (.aload_n 0, 1) := by decide +kernel
theorem dX5_told_73 : decode cX5_told 73 = .ok (.getfield 21, 3) := by decide +kernel
theorem dX5_told_76 : decode cX5_told 76 = .ok (.getfield 89, 3) := by decide +kernel
theorem dX5_told_79 : decode cX5_told 79 = .ok (.ireturn, 1) := by decide +kernel
theorem dX5_told_80 : decode cX5_told 80 = .ok (.aload_n 0, 1) := by decide +kernel
theorem dX5_told_81 : decode cX5_told 81 = .ok (.getfield 21, 3) := by decide +kernel
theorem dX5_told_84 : decode cX5_told 84 = .ok (.getfield 92, 3) := by decide +kernel
theorem dX5_told_87 : decode cX5_told 87 = .ok (.ireturn, 1) := by decide +kernel
theorem dX5_told_88 : decode cX5_told 88 = .ok (.aload_n 0, 1) := by decide +kernel
theorem dX5_told_89 : decode cX5_told 89 = .ok (.getfield 54, 3) := by decide +kernel
theorem dX5_told_92 : decode cX5_told 92 = .ok (.ireturn, 1) := by decide +kernel
theorem dX5_told_93 : decode cX5_told 93 = .ok (.aload_n 0, 1) := by decide +kernel
theorem dX5_told_94 : decode cX5_told 94 = .ok (.getfield 39, 3) := by decide +kernel
theorem dX5_told_97 : decode cX5_told 97 = .ok (.getfield 115, 3) := by decide +kernel
theorem dX5_told_100 : decode cX5_told 100 = .ok (.ifCond .eq 7, 3) := by decide +kernel
theorem dX5_told_103 : decode cX5_told 103 = .ok (.iconst 1, 1) := by decide +kernel
theorem dX5_told_104 : decode cX5_told 104 = .ok (.goto 4, 3) := by decide +kernel
theorem dX5_told_107 : decode cX5_told 107 = .ok (.iconst 0, 1) := by decide +kernel
theorem dX5_told_108 : decode cX5_told 108 = .ok (.ireturn, 1) := by decide +kernel
theorem dX5_told_109 : decode cX5_told 109 = .ok (.aload_n 0, 1) := by decide +kernel
theorem dX5_told_110 : decode cX5_told 110 = .ok (.getfield 10, 3) := by decide +kernel
theorem dX5_told_113 : decode cX5_told 113 = .ok (.aload_n 0, 1) := by decide +kernel
theorem dX5_told_114 : decode cX5_told 114 = .ok (.getfield 50, 3) := by decide +kernel
theorem dX5_told_117 : decode cX5_told 117 = .ok (.invokevirtual 183, 3) := by decide +kernel
theorem dX5_told_120 : decode cX5_told 120 = .ok (.ireturn, 1) := by decide +kernel
theorem dX5_told_121 : decode cX5_told 121 = .ok (.ldc 187, 2) := by decide +kernel
theorem dX5_told_123 : decode cX5_told 123 = .ok (.ireturn, 1) := by decide +kernel
def rX5_told : Room := { frames := 1, cells := 0, slots := 0, locals := 23 }
theorem yk_X5_told : YK yX5_told cX5_told 2 (some .int) 1 := ⟨xim_X5_told, xse_X5_told, xin_X5, xco_X5_told, by decide +kernel⟩
set_option maxRecDepth 4000 in
theorem c_X5_told {l : Launch} {D : va_G} {t : Nat → ClassId} {a : Nat → Nat} {I : Nat → Int32} {F : Nat → Nat → Int32} {L : Nat → Int64} {K : Cfg} {sd : Int32} {hd : Nat → Nat} {dk : Bool} {dw : Nat → Nat} {mt : Int32} (hI : INV (K, sd, hd, dk, dw, mt)) (hX : RX (K, sd, hd, dk, dw, mt) I F) (x : Int32) : CT l D t yX5_told cX5_told 2 (some .int) rX5_told 0 0 [.ref (a 0), .int x] (WX a t I F L) (XO a t (opTold (K, sd, hd, dk, dw, mt) x)) := by
  refine CT.of (by decide +kernel) (by simp [lg_sl, Value.category]) (fun X C hR => ?_)
  refine xlocals (lv' := [(0, .ref (a 0)), (1, .int x)]) rfl ?_
  obtain ⟨hK, hsd, hHd, hdk, hdr, hgd, hHS, hLS⟩ := id hX
  have hW : WFK K := hI.1
  have hrg := hI.2.1
  have fn24 := hW.n24; have fm60 := hW.m60; have fk2 := hW.k2; have fu1 := hW.u1; have fu9 := hW.u9; have fv1 := hW.v1; have fv9 := hW.v9
  refine xiload_n C 1 rfl dX5_told_0 ?_
  rcases sw07 x with h1 | h1 | h1 | h1 | h1 | h1 | h1 | h1 | h1
  ·
    subst h1
    refine xtabIn C 48 dX5_told_1 (off := 47) (by decide +kernel) (by decide +kernel) (by decide +kernel) (by decide) ?_
    refine xaload_n C 0 rfl dX5_told_48 ?_
    refine gX5_10 C dX5_told_49 ?_
    refine gX5_58K C hK dX5_told_52 ?_
    exact xret C hR (rfl) dX5_told_55 (XO.mk (by rw [opTold, ci_t rfl]) hX)
  ·
    subst h1
    refine xtabIn C 56 dX5_told_1 (off := 55) (by decide +kernel) (by decide +kernel) (by decide +kernel) (by decide) ?_
    refine xaload_n C 0 rfl dX5_told_56 ?_
    refine gX5_10 C dX5_told_57 ?_
    refine gX5_72K C hK dX5_told_60 ?_
    exact xret C hR (rfl) dX5_told_63 (XO.mk (by rw [opTold, ci_f (by decide +kernel), ci_t rfl]) hX)
  ·
    subst h1
    refine xtabIn C 64 dX5_told_1 (off := 63) (by decide +kernel) (by decide +kernel) (by decide +kernel) (by decide) ?_
    refine xaload_n C 0 rfl dX5_told_64 ?_
    refine gX5_21 C dX5_told_65 ?_
    refine gX5_86K C hK dX5_told_68 ?_
    exact xret C hR (rfl) dX5_told_71 (XO.mk (by rw [opTold, ci_f (by decide +kernel), ci_f (by decide +kernel), ci_t rfl]) hX)
  ·
    subst h1
    refine xtabIn C 72 dX5_told_1 (off := 71) (by decide +kernel) (by decide +kernel) (by decide +kernel) (by decide) ?_
    refine xaload_n C 0 rfl dX5_told_72 ?_
    refine gX5_21 C dX5_told_73 ?_
    refine gX5_89K C hK dX5_told_76 ?_
    exact xret C hR (rfl) dX5_told_79 (XO.mk (by rw [opTold, ci_f (by decide +kernel), ci_f (by decide +kernel), ci_f (by decide +kernel), ci_t rfl]) hX)
  ·
    subst h1
    refine xtabIn C 80 dX5_told_1 (off := 79) (by decide +kernel) (by decide +kernel) (by decide +kernel) (by decide) ?_
    refine xaload_n C 0 rfl dX5_told_80 ?_
    refine gX5_21 C dX5_told_81 ?_
    refine gX5_92K C hK dX5_told_84 ?_
    exact xret C hR (rfl) dX5_told_87 (XO.mk (by rw [opTold, ci_f (by decide +kernel), ci_f (by decide +kernel), ci_f (by decide +kernel), ci_f (by decide +kernel), ci_t rfl]) hX)
  ·
    subst h1
    refine xtabIn C 88 dX5_told_1 (off := 87) (by decide +kernel) (by decide +kernel) (by decide +kernel) (by decide) ?_
    refine xaload_n C 0 rfl dX5_told_88 ?_
    refine gX5_54 C dX5_told_89 ?_
    refine xtopi (y := sd) (hsd) ?_
    exact xret C hR (rfl) dX5_told_92 (XO.mk (by rw [opTold, ci_f (by decide +kernel), ci_f (by decide +kernel), ci_f (by decide +kernel), ci_f (by decide +kernel), ci_f (by decide +kernel), ci_t rfl]) hX)
  ·
    subst h1
    refine xtabIn C 93 dX5_told_1 (off := 92) (by decide +kernel) (by decide +kernel) (by decide +kernel) (by decide) ?_
    refine xaload_n C 0 rfl dX5_told_93 ?_
    refine gX5_39 C dX5_told_94 ?_
    refine gX5_115 C dX5_told_97 ?_
    refine xtopi (y := nI (dkN dk)) (hdk) ?_
    have hdl := dkN_le dk
    refine xif_eqN C 107 dX5_told_100 (by decide) (by omega) (fun h100 => ?_) (fun h100 => ?_)
    ·
      refine xiconst (v := nI 0) C dX5_told_107 (by decide) ?_
      exact xret C hR (rfl) dX5_told_108 (XO.mk (by rw [opTold, ci_f (by decide +kernel), ci_f (by decide +kernel), ci_f (by decide +kernel), ci_f (by decide +kernel), ci_f (by decide +kernel), ci_f (by decide +kernel), ci_t rfl, show dkN dk = 0 from h100]) hX)
    ·
      refine xiconst (v := nI 1) C dX5_told_103 (by decide) ?_
      refine xgoto C 108 dX5_told_104 (by decide) ?_
      exact xret C hR (rfl) dX5_told_108 (XO.mk (by rw [opTold, ci_f (by decide +kernel), ci_f (by decide +kernel), ci_f (by decide +kernel), ci_f (by decide +kernel), ci_f (by decide +kernel), ci_f (by decide +kernel), ci_t rfl, show dkN dk = 1 from by rw [dk1 h100]; rfl]) hX)
  ·
    subst h1
    refine xtabIn C 109 dX5_told_1 (off := 108) (by decide +kernel) (by decide +kernel) (by decide +kernel) (by decide) ?_
    refine xaload_n C 0 rfl dX5_told_109 ?_
    refine gX5_10 C dX5_told_110 ?_
    refine xaload_n C 0 rfl dX5_told_113 ?_
    refine gX5_50 C dX5_told_114 ?_
    refine xcVR C (c_X1_likeLinks hK hW 12 (by omega) (by omega) hHd) yk_X1_likeLinks 1 rfl rfl xml_X5_183 ⟨⟨Nat.le_of_ble_eq_true rfl, Nat.le_of_ble_eq_true rfl⟩, ⟨rfl, rfl⟩, ⟨Nat.zero_le _, Nat.zero_le _⟩⟩ rfl (Nat.le_of_ble_eq_true rfl) dX5_told_117 ?_
    exact xret C hR (rfl) dX5_told_120 (XO.mk (by rw [opTold, ci_f (by decide +kernel), ci_f (by decide +kernel), ci_f (by decide +kernel), ci_f (by decide +kernel), ci_f (by decide +kernel), ci_f (by decide +kernel), ci_f (by decide +kernel), ci_t rfl]) hX)
  ·
    refine xtabOut C 121 dX5_told_1 h1 (by decide) ?_
    refine xldc C dX5_told_121 xcn_X5_187 ?_
    exact xret C hR (rfl) dX5_told_123 (XO.mk (by rw [opTold, ci_f (fun e => by subst e; revert h1; decide +kernel), ci_f (fun e => by subst e; revert h1; decide +kernel), ci_f (fun e => by subst e; revert h1; decide +kernel), ci_f (fun e => by subst e; revert h1; decide +kernel), ci_f (fun e => by subst e; revert h1; decide +kernel), ci_f (fun e => by subst e; revert h1; decide +kernel), ci_f (fun e => by subst e; revert h1; decide +kernel), ci_f (fun e => by subst e; revert h1; decide +kernel)]) hX)
theorem dX5_about_0 : decode cX5_about 0 = .ok (.aload_n 0, 1) := by decide +kernel
theorem dX5_about_1 : decode cX5_about 1 = .ok (.getfield 10, 3) := by decide +kernel
theorem dX5_about_4 : decode cX5_about 4 = .ok (.iload_n 1, 1) := by decide +kernel
theorem dX5_about_5 : decode cX5_about 5 = .ok (.invokevirtual 68, 3) := by decide +kernel
theorem dX5_about_8 : decode cX5_about 8 = .ok (.ifCond .ne 5, 3) := by decide +kernel
theorem dX5_about_11 : decode cX5_about 11 = .ok (.iconst (-1), 1) := by decide +kernel
theorem dX5_about_12 : decode cX5_about 12 = .ok (.ireturn, 1) := by decide +kernel
theorem dX5_about_13 : decode cX5_about 13 = .ok (.iload_n 2, 1) := by decide +kernel
theorem dX5_about_14 : decode cX5_about 14 = .ok (.tableswitch 70 0 3 #[30, 40, 50, 60], 30) := by decide +kernel
theorem dX5_about_44 : decode cX5_about 44 = .ok (.aload_n 0, 1) := by decide +kernel
theorem dX5_about_45 : decode cX5_about 45 = .ok (.getfield 10, 3) := by decide +kernel
theorem dX5_about_48 : decode cX5_about 48 = .ok (.getfield 95, 3) := by decide +kernel
theorem dX5_about_51 : decode cX5_about 51 = .ok (.iload_n 1, 1) := by decide +kernel
theorem dX5_about_52 : decode cX5_about 52 = .ok (.iaload, 1) := by decide +kernel
theorem dX5_about_53 : decode cX5_about 53 = .ok (.ireturn, 1) := by decide +kernel
theorem dX5_about_54 : decode cX5_about 54 = .ok (.aload_n 0, 1) := by decide +kernel
theorem dX5_about_55 : decode cX5_about 55 = .ok (.getfield 10, 3) := by decide +kernel
theorem dX5_about_58 : decode cX5_about 58 = .ok (.getfield 188, 3) := by decide +kernel
theorem dX5_about_61 : decode cX5_about 61 = .ok (.iload_n 1, 1) := by decide +kernel
theorem dX5_about_62 : decode cX5_about 62 = .ok (.iaload, 1) := by decide +kernel
theorem dX5_about_63 : decode cX5_about 63 = .ok (.ireturn, 1) := by decide +kernel
theorem dX5_about_64 : decode cX5_about 64 = .ok (.aload_n 0, 1) := by decide +kernel
theorem dX5_about_65 : decode cX5_about 65 = .ok (.getfield 10, 3) := by decide +kernel
theorem dX5_about_68 : decode cX5_about 68 = .ok (.getfield 98, 3) := by decide +kernel
theorem dX5_about_71 : decode cX5_about 71 = .ok (.iload_n 1, 1) := by decide +kernel
theorem dX5_about_72 : decode cX5_about 72 = .ok (.iaload, 1) := by decide +kernel
theorem dX5_about_73 : decode cX5_about 73 = .ok (.ireturn, 1) := by decide +kernel
theorem dX5_about_74 : decode cX5_about 74 = .ok (.aload_n 0, 1) := by decide +kernel
theorem dX5_about_75 : decode cX5_about 75 = .ok (.getfield 10, 3) := by decide +kernel
theorem dX5_about_78 : decode cX5_about 78 = .ok (.getfield 191, 3) := by decide +kernel
theorem dX5_about_81 : decode cX5_about 81 = .ok (.iload_n 1, 1) := by decide +kernel
theorem dX5_about_82 : decode cX5_about 82 = .ok (.iaload, 1) := by decide +kernel
theorem dX5_about_83 : decode cX5_about 83 = .ok (.ireturn, 1) := by decide +kernel
theorem dX5_about_84 : decode cX5_about 84 = .ok (.iload_n 2, 1) := by decide +kernel
theorem dX5_about_85 : decode cX5_about 85 = .ok (.bipush 10, 2) := by decide +kernel
theorem dX5_about_87 : decode cX5_about 87 = .ok (.if_icmp .lt 9, 3) := by decide +kernel
theorem dX5_about_90 : decode cX5_about 90 = .ok (.iload_n 2, 1) := by decide +kernel
theorem dX5_about_91 : decode cX5_about 91 = .ok (.bipush 16, 2) := by decide +kernel
theorem dX5_about_93 : decode cX5_about 93 = .ok (.if_icmp .lt 6, 3) := by decide +kernel
theorem dX5_about_96 : decode cX5_about 96 = .ok (.bipush (-2), 2) := by decide +kernel
theorem dX5_about_98 : decode cX5_about 98 = .ok (.ireturn, 1) := by decide +kernel
theorem dX5_about_99 : decode cX5_about 99 = .ok (.iload_n 2, 1) := by decide +kernel
theorem dX5_about_100 : decode cX5_about 100 = .ok (.bipush 10, 2) := by decide +kernel
theorem dX5_about_102 : decode cX5_about 102 = .ok (.isub, 1) := by decide +kernel
theorem dX5_about_103 : decode cX5_about 103 = .ok (.aload_n 0, 1) := by decide +kernel
theorem dX5_about_104 : decode cX5_about 104 = .ok (.getfield 10, 3) := by decide +kernel
theorem dX5_about_107 : decode cX5_about 107 = .ok (.getfield 191, 3) := by decide +kernel
theorem dX5_about_110 : decode cX5_about 110 = .ok (.iload_n 1, 1) := by decide +kernel
theorem dX5_about_111 : decode cX5_about 111 = .ok (.iaload, 1) := by decide +kernel
theorem dX5_about_112 : decode cX5_about 112 = .ok (.if_icmp .ge 20, 3) := by decide +kernel
theorem dX5_about_115 : decode cX5_about 115 = .ok (.aload_n 0, 1) := by decide +kernel
theorem dX5_about_116 : decode cX5_about 116 = .ok (.getfield 10, 3) := by decide +kernel
theorem dX5_about_119 : decode cX5_about 119 = .ok (.getfield 194, 3) := by decide +kernel
theorem dX5_about_122 : decode cX5_about 122 = .ok (.iload_n 1, 1) := by decide +kernel
theorem dX5_about_123 : decode cX5_about 123 = .ok (.aaload, 1) := by decide +kernel
theorem dX5_about_124 : decode cX5_about 124 = .ok (.iload_n 2, 1) := by decide +kernel
theorem dX5_about_125 : decode cX5_about 125 = .ok (.bipush 10, 2) := by decide +kernel
theorem dX5_about_127 : decode cX5_about 127 = .ok (.isub, 1) := by decide +kernel
theorem dX5_about_128 : decode cX5_about 128 = .ok (.iaload, 1) := by decide +kernel
theorem dX5_about_129 : decode cX5_about 129 = .ok (.goto 5, 3) := by decide +kernel
theorem dX5_about_132 : decode cX5_about 132 = .ok (.bipush (-6), 2) := by decide +kernel
theorem dX5_about_134 : decode cX5_about 134 = .ok (.ireturn, 1) := by decide +kernel
def rX5_about : Room := { frames := 1, cells := 0, slots := 0, locals := 21 }
theorem yk_X5_about : YK yX5_about cX5_about 3 (some .int) 2 := ⟨xim_X5_about, xse_X5_about, xin_X5, xco_X5_about, by decide +kernel⟩
set_option maxRecDepth 4000 in
theorem c_X5_about {l : Launch} {D : va_G} {t : Nat → ClassId} {a : Nat → Nat} {I : Nat → Int32} {F : Nat → Nat → Int32} {L : Nat → Int64} {K : Cfg} {sd : Int32} {hd : Nat → Nat} {dk : Bool} {dw : Nat → Nat} {mt : Int32} (hI : INV (K, sd, hd, dk, dw, mt)) (hX : RX (K, sd, hd, dk, dw, mt) I F) (x y : Int32) : CT l D t yX5_about cX5_about 3 (some .int) rX5_about 0 0 [.ref (a 0), .int x, .int y] (WX a t I F L) (XO a t (opAbout (K, sd, hd, dk, dw, mt) x y)) := by
  refine CT.of (by decide +kernel) (by simp [lg_sl, Value.category]) (fun X C hR => ?_)
  refine xlocals (lv' := [(0, .ref (a 0)), (1, .int x), (2, .int y)]) rfl ?_
  obtain ⟨hK, hsd, hHd, hdk, hdr, hgd, hHS, hLS⟩ := id hX
  have hW : WFK K := hI.1
  have hrg := hI.2.1
  have fn24 := hW.n24; have fm60 := hW.m60; have fk2 := hW.k2; have fu1 := hW.u1; have fu9 := hW.u9; have fv1 := hW.v1; have fv9 := hW.v9
  refine xaload_n C 0 rfl dX5_about_0 ?_
  refine gX5_10 C dX5_about_1 ?_
  refine xiload_n C 1 rfl dX5_about_4 ?_
  refine xcVR C (c_X1_has hK hW x) yk_X1_has 1 rfl rfl xml_X5_68 ⟨⟨Nat.le_of_ble_eq_true rfl, Nat.le_of_ble_eq_true rfl⟩, ⟨rfl, rfl⟩, ⟨Nat.zero_le _, Nat.zero_le _⟩⟩ rfl (Nat.le_of_ble_eq_true rfl) dX5_about_5 ?_
  refine xif_neN C 13 dX5_about_8 (by decide) (bn_lt _) (fun h8 => ?_) (fun h8 => ?_)
  ·
    obtain ⟨p, hp, rfl⟩ := (bn_1 h8).nat hW
    refine xiload_n C 2 rfl dX5_about_13 ?_
    rcases sw03 y with h14 | h14 | h14 | h14 | h14
    ·
      subst h14
      refine xtabIn C 44 dX5_about_14 (off := 30) (by decide +kernel) (by decide +kernel) (by decide +kernel) (by decide) ?_
      refine xaload_n C 0 rfl dX5_about_44 ?_
      refine gX5_10 C dX5_about_45 ?_
      refine gX5_95 C dX5_about_48 ?_
      refine xiload_n C 1 rfl dX5_about_51 ?_
      refine xa_top C hK hW p (by omega) dX5_about_52 ?_
      have fb52 := (hW.top5 (by omega))
      exact xret C hR (rfl) dX5_about_53 (XO.mk (by rw [opAbout, ci_f (fun q => q (hasP_nat hW hp)), show cl (nI p) = p from nI_clamp (by omega), ci_t rfl]) hX)
    ·
      subst h14
      refine xtabIn C 54 dX5_about_14 (off := 40) (by decide +kernel) (by decide +kernel) (by decide +kernel) (by decide) ?_
      refine xaload_n C 0 rfl dX5_about_54 ?_
      refine gX5_10 C dX5_about_55 ?_
      refine gX5_188 C dX5_about_58 ?_
      refine xiload_n C 1 rfl dX5_about_61 ?_
      refine xa_si C hK hW p (by omega) dX5_about_62 ?_
      have fb62 := (hW.si1 (by omega))
      exact xret C hR (rfl) dX5_about_63 (XO.mk (by rw [opAbout, ci_f (fun q => q (hasP_nat hW hp)), show cl (nI p) = p from nI_clamp (by omega), ci_f (by decide +kernel), ci_t rfl]) hX)
    ·
      subst h14
      refine xtabIn C 64 dX5_about_14 (off := 50) (by decide +kernel) (by decide +kernel) (by decide +kernel) (by decide) ?_
      refine xaload_n C 0 rfl dX5_about_64 ?_
      refine gX5_10 C dX5_about_65 ?_
      refine gX5_98 C dX5_about_68 ?_
      refine xiload_n C 1 rfl dX5_about_71 ?_
      refine xa_hd C hK hW p (by omega) dX5_about_72 ?_
      have fb72 := (hW.hd6 (by omega))
      exact xret C hR (rfl) dX5_about_73 (XO.mk (by rw [opAbout, ci_f (fun q => q (hasP_nat hW hp)), show cl (nI p) = p from nI_clamp (by omega), ci_f (by decide +kernel), ci_f (by decide +kernel), ci_t rfl]) hX)
    ·
      subst h14
      refine xtabIn C 74 dX5_about_14 (off := 60) (by decide +kernel) (by decide +kernel) (by decide +kernel) (by decide) ?_
      refine xaload_n C 0 rfl dX5_about_74 ?_
      refine gX5_10 C dX5_about_75 ?_
      refine gX5_191 C dX5_about_78 ?_
      refine xiload_n C 1 rfl dX5_about_81 ?_
      refine xa_dg C hK hW p (by omega) dX5_about_82 ?_
      have fb82 := hW.dg6 p
      exact xret C hR (rfl) dX5_about_83 (XO.mk (by rw [opAbout, ci_f (fun q => q (hasP_nat hW hp)), show cl (nI p) = p from nI_clamp (by omega), ci_f (by decide +kernel), ci_f (by decide +kernel), ci_f (by decide +kernel), ci_t rfl]) hX)
    ·
      refine xtabOut C 84 dX5_about_14 h14 (by decide) ?_
      refine xiload_n C 2 rfl dX5_about_84 ?_
      refine xbipush (v := 10) C dX5_about_85 (by decide) ?_
      refine xicmp_lt C 96 dX5_about_87 (by decide) (fun h87 => ?_) (fun h87 => ?_)
      ·
        refine xbipush (v := -2) C dX5_about_96 (by decide) ?_
        exact xret C hR (rfl) dX5_about_98 (XO.mk (by rw [opAbout, ci_f (fun q => q (hasP_nat hW hp)), show cl (nI p) = p from nI_clamp (by omega), ci_f (fun e => by subst e; revert h14; decide +kernel), ci_f (fun e => by subst e; revert h14; decide +kernel), ci_f (fun e => by subst e; revert h14; decide +kernel), ci_f (fun e => by subst e; revert h14; decide +kernel), ci_t (Or.inl h87)]) hX)
      ·
        refine xiload_n C 2 rfl dX5_about_90 ?_
        refine xbipush (v := 16) C dX5_about_91 (by decide) ?_
        refine xicmp_lt C 99 dX5_about_93 (by decide) (fun h93 => ?_) (fun h93 => ?_)
        ·
          obtain ⟨c, hc10, hc15, rfl⟩ := boxN (a := 10) (b := 15) (by decide) (by decide) h87 (lt16 h93)
          refine xiload_n C 2 rfl dX5_about_99 ?_
          refine xbipush (v := nI 10) C dX5_about_100 (by decide) ?_
          refine xisubN C (by omega) dX5_about_102 ?_
          refine xaload_n C 0 rfl dX5_about_103 ?_
          refine gX5_10 C dX5_about_104 ?_
          refine gX5_191 C dX5_about_107 ?_
          refine xiload_n C 1 rfl dX5_about_110 ?_
          refine xa_dg C hK hW p (by omega) dX5_about_111 ?_
          have fb111 := hW.dg6 p
          refine xicmp_geN C 132 dX5_about_112 (by decide) (by omega) (by omega) (fun h112 => ?_) (fun h112 => ?_)
          ·
            refine xbipush (v := -6) C dX5_about_132 (by decide) ?_
            exact xret C hR (rfl) dX5_about_134 (XO.mk (by rw [opAbout, ci_f (fun q => q (hasP_nat hW hp)), show cl (nI p) = p from nI_clamp (by omega), ci_f (show ¬ nI c = 0 from nneq (k := 0) (by omega) (by omega) (by omega)), ci_f (show ¬ nI c = 1 from nneq (k := 1) (by omega) (by omega) (by omega)), ci_f (show ¬ nI c = 2 from nneq (k := 2) (by omega) (by omega) (by omega)), ci_f (show ¬ nI c = 3 from nneq (k := 3) (by omega) (by omega) (by omega)), ci_f (not1015 hc10 hc15), show cl (nI c) = c from nI_clamp (by omega), ci_f (by omega)]) hX)
          ·
            refine xaload_n C 0 rfl dX5_about_115 ?_
            refine gX5_10 C dX5_about_116 ?_
            refine gX5_194 C dX5_about_119 ?_
            refine xiload_n C 1 rfl dX5_about_122 ?_
            refine xa_out C p (by omega) dX5_about_123 ?_
            refine xiload_n C 2 rfl dX5_about_124 ?_
            refine xbipush (v := nI 10) C dX5_about_125 (by decide) ?_
            refine xisubN C (by omega) dX5_about_127 ?_
            refine xa_nb C hK hW p (c - 10) (by omega) (by omega) dX5_about_128 ?_
            have fb128 := hW.nb (show p < kn K by omega) (show c - 10 < kdg K p by omega)
            refine xgoto C 134 dX5_about_129 (by decide) ?_
            exact xret C hR (rfl) dX5_about_134 (XO.mk (by rw [opAbout, ci_f (fun q => q (hasP_nat hW hp)), show cl (nI p) = p from nI_clamp (by omega), ci_f (show ¬ nI c = 0 from nneq (k := 0) (by omega) (by omega) (by omega)), ci_f (show ¬ nI c = 1 from nneq (k := 1) (by omega) (by omega) (by omega)), ci_f (show ¬ nI c = 2 from nneq (k := 2) (by omega) (by omega) (by omega)), ci_f (show ¬ nI c = 3 from nneq (k := 3) (by omega) (by omega) (by omega)), ci_f (not1015 hc10 hc15), show cl (nI c) = c from nI_clamp (by omega), ci_t h112]) hX)
        ·
          refine xbipush (v := -2) C dX5_about_96 (by decide) ?_
          exact xret C hR (rfl) dX5_about_98 (XO.mk (by rw [opAbout, ci_f (fun q => q (hasP_nat hW hp)), show cl (nI p) = p from nI_clamp (by omega), ci_f (fun e => by subst e; revert h14; decide +kernel), ci_f (fun e => by subst e; revert h14; decide +kernel), ci_f (fun e => by subst e; revert h14; decide +kernel), ci_f (fun e => by subst e; revert h14; decide +kernel), ci_t (Or.inr (ge16 h93))]) hX)
  ·
    have h8 := bn_0 h8
    refine xiconst (v := -1) C dX5_about_11 (by decide) ?_
    exact xret C hR (rfl) dX5_about_12 (XO.mk (by rw [opAbout, ci_t h8]) hX)
