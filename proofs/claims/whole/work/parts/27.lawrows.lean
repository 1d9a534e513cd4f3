/-! THE LAW, 1: rows of its own; each call's answer is an int (a long); what a new object is. -/
def XS (X : XC) (b L : Nat) (xs : Nat → Int32) : Prop := match X with
  | (_, _, _, _, s, _, _, _, _, _, _, _, _, A, _) => va_X b L xs s s.heap ∧ b < s.heap.size ∧ ¬ A b
section LAWROWS
variable {X : XC} {l : Launch} {D : va_G} {t : Nat → ClassId} {cc : ByteArray} {own : String} {rm : Room} {nL : Nat} {k n : Nat} {ws : va_W} {lv : List (Nat × Value)} {pc : Nat} {st : List Value} {b L : Nat} {xs : Nat → Int32}
theorem xsld (C : XK X l D t cc own rm nL) (S : XS X b L xs) {j : Nat} (hj : j < L) (hL : L ≤ 2048) (hdg : decode cc pc = .ok (.iaload, 1)) (kk : XW X k n ws lv (pc + 1) (.int (xs j) :: st)) : XW X k n ws lv pc (.int (nI j) :: .ref b :: st) := by
  obtain ⟨p, l1, e, R, s, m, args, below, meth, c, Q, D1, t1, A, nL1⟩ := X
  intro H locs ls hP hD hS hl
  refine va_sld C.1 C.2.1 S.1 S.2.1 S.2.2 hS (vp_in_nI hj (by omega)) hdg ?_
  rw [nI_clamp (by omega)]
  exact kk H locs ls hP hD hS hl
theorem xslen (C : XK X l D t cc own rm nL) (S : XS X b L xs) (hdg : decode cc pc = .ok (.arraylength, 1)) (kk : XW X k n ws lv (pc + 1) (.int (nI L) :: st)) : XW X k n ws lv pc (.ref b :: st) := by
  obtain ⟨p, l1, e, R, s, m, args, below, meth, c, Q, D1, t1, A, nL1⟩ := X
  intro H locs ls hP hD hS hl
  exact va_slen C.1 C.2.1 S.1 S.2.1 S.2.2 hS hdg (kk H locs ls hP hD hS hl)
/-- an int of the script behind the loop's place -/
theorem xarg (C : XK X l D t cc own rm nL) (S : XS X b L xs) (hL : L ≤ 2048) {i : Nat} {q : Int} (j : Nat) (hq : Int32.ofInt q = nI j) (hj : i + j < L) (h3 : lv[0]? = some (3, .int (nI i))) (h0 : lv[3]? = some (0, .ref b)) (d0 : decode cc pc = .ok (.aload_n 0, 1)) (d1 : decode cc (pc + 1) = .ok (.iload_n 3, 1)) (d2 : decode cc (pc + 1 + 1) = .ok (.iconst q, 1)) (d3 : decode cc (pc + 1 + 1 + 1) = .ok (.iadd, 1)) (d4 : decode cc (pc + 1 + 1 + 1 + 1) = .ok (.iaload, 1)) (kk : XW X k n ws lv (pc + 1 + 1 + 1 + 1 + 1) (.int (xs (i + j)) :: st)) : XW X k n ws lv pc st := by
  refine xaload_n C 3 h0 d0 ?_
  refine xiload_n C 0 h3 d1 ?_
  refine xiconst C d2 hq ?_
  refine xiadd C d3 ?_
  refine xtopi (nI_add i j) ?_
  exact xsld C S hj hL d4 kk
end LAWROWS
theorem and31 (w : Int32) : ∃ j : Nat, j < 32 ∧ w &&& 31 = nI j := by
  have h : w.toBitVec.toNat &&& 31 ≤ 31 := Nat.and_le_right
  refine ⟨w.toBitVec.toNat &&& 31, by omega, ?_⟩
  apply Int32.toBitVec_inj.mp
  apply BitVec.eq_of_toNat_eq
  rw [Int32.toBitVec_and, BitVec.toNat_and]
  show w.toBitVec.toNat &&& 31 = (BitVec.ofNat 32 (w.toBitVec.toNat &&& 31)).toNat
  rw [BitVec.toNat_ofNat, Nat.mod_eq_of_lt (by omega)]
/-- the loop's bound -/
theorem law_in {i L : Nat} (hi : i ≤ L) (hL : L ≤ 2048) (h : ¬ nI L - 4 < nI i) : i + 4 ≤ L := by
  rcases Nat.lt_or_ge L (i + 4) with q | q
  · exact absurd (by
      rw [Int32.lt_iff_toInt_lt, Int32.toInt_sub, nI_toInt (by omega), nI_toInt (by omega)]
      have h4 : (4 : Int32).toInt = 4 := by decide
      rw [h4]
      rw [Int.bmod_eq_of_le (by omega) (by omega)]
      omega) h
  · exact q
def isI (r : Value × Abs) : Prop := ∃ z : Int32, r.1 = .int z
def isL (r : Value × Abs) : Prop := ∃ z : Int64, r.1 = .long z
theorem isI_v {z : Int32} {σ : Abs} : isI (.int z, σ) := ⟨z, rfl⟩
theorem isL_v {z : Int64} {σ : Abs} : isL (.long z, σ) := ⟨z, rfl⟩
theorem isI_c {P : Prop} {x y : Value × Abs} (hx : isI x) (hy : isI y) : isI (ci P x y) := by
  rcases Classical.em P with h | h
  · rw [ci_t h]; exact hx
  · rw [ci_f h]; exact hy
theorem isL_c {P : Prop} {x y : Value × Abs} (hx : isL x) (hy : isL y) : isL (ci P x y) := by
  rcases Classical.em P with h | h
  · rw [ci_t h]; exact hx
  · rw [ci_f h]; exact hy
section
variable {K : Cfg} {sd : Int32} {hd : Nat → Nat} {dk : Bool} {dw : Nat → Nat} {mt : Int32}
theorem isI_place (x y : Int32) : isI (opPlace (K, sd, hd, dk, dw, mt) x y) := isI_c isI_v (isI_c isI_v isI_v)
theorem isI_link (x y : Int32) : isI (opLink (K, sd, hd, dk, dw, mt) x y) := isI_c isI_v (isI_c isI_v (isI_c isI_v isI_v))
theorem isI_kind (x y z : Int32) : isI (opKind (K, sd, hd, dk, dw, mt) x y z) := isI_c isI_v isI_v
theorem isI_hold (x y : Int32) : isI (opHold (K, sd, hd, dk, dw, mt) x y) := isI_c isI_v (isI_c isI_v isI_v)
theorem isI_good : isI (opGood (K, sd, hd, dk, dw, mt)) := isI_v
theorem isI_highest (x : Int32) : isI (opHigh (K, sd, hd, dk, dw, mt) x) := isI_c isI_v (isI_c isI_v isI_v)
theorem isI_lowest (x : Int32) : isI (opLow (K, sd, hd, dk, dw, mt) x) := isI_c isI_v (isI_c isI_v isI_v)
theorem isI_at (x : Int32) : isI (opAt (K, sd, hd, dk, dw, mt) x) := isI_c isI_v isI_v
theorem isI_put (x y : Int32) : isI (opPut (K, sd, hd, dk, dw, mt) x y) := isI_c isI_v (isI_c isI_v (isI_c isI_v isI_v))
theorem isI_take (x : Int32) : isI (opTake (K, sd, hd, dk, dw, mt) x) := isI_c isI_v (isI_c isI_v (isI_c isI_v isI_v))
theorem isI_seed (x : Int32) : isI (opSeed (K, sd, hd, dk, dw, mt) x) := isI_v
theorem isI_tick (x y : Int32) : isI (opTick (K, sd, hd, dk, dw, mt) x y) := isI_c isI_v (isI_c isI_v isI_v)
theorem isI_run (x y : Int32) : isI (opRun (K, sd, hd, dk, dw, mt) x y) := isI_c isI_v (isI_c isI_v isI_v)
theorem isI_gap (x : Int32) : isI (opGap (K, sd, hd, dk, dw, mt) x) := isI_c isI_v (isI_c isI_v isI_v)
theorem isI_draw : isI (opDraw (K, sd, hd, dk, dw, mt)) := by
  refine isI_c isI_v ?_
  cases farN K sd <;> exact isI_v
theorem isI_drawn (x : Int32) : isI (opDrawn (K, sd, hd, dk, dw, mt) x) := isI_c isI_v (isI_c isI_v isI_v)
theorem isI_met : isI (opMet (K, sd, hd, dk, dw, mt)) := isI_v
theorem isI_tally (x y z : Int32) : isI (opTally (K, sd, hd, dk, dw, mt) x y z) := by
  refine isI_c isI_v (isI_c isI_v (isI_c isI_v ?_))
  cases tlN K y (cl x) (cl z) <;> exact isI_v
theorem isI_many : isI (opMany (K, sd, hd, dk, dw, mt)) := isI_c isI_v (isI_c isI_v isI_v)
theorem isL_all : isL (opAll (K, sd, hd, dk, dw, mt)) := isL_c isL_v (isL_c isL_v isL_v)
theorem isL_chance (x : Int32) : isL (opChance (K, sd, hd, dk, dw, mt) x) := isL_c isL_v (isL_c isL_v (isL_c isL_v isL_v))
theorem isL_mean (x y : Int32) : isL (opMean (K, sd, hd, dk, dw, mt) x y) := isL_c isL_v (isL_c isL_v (isL_c isL_v (isL_c isL_v isL_v)))
theorem isL_alike (x y z : Int32) : isL (opAlike (K, sd, hd, dk, dw, mt) x y z) := isL_c isL_v (isL_c isL_v (isL_c isL_v (isL_c isL_v isL_v)))
theorem isI_told (x : Int32) : isI (opTold (K, sd, hd, dk, dw, mt) x) := isI_v
theorem isI_about (x y : Int32) : isI (opAbout (K, sd, hd, dk, dw, mt) x y) := isI_c isI_v isI_v
end
/-- a new object: the cells' numbers -/
def I00 : Nat → Int32 := fun j => if j = 3 then 1 else if j = 4 then 1 else 0
def F00 : Nat → Nat → Int32 := fun _ _ => 0
theorem CFG_0 : CFG K0 I00 F00 := ⟨by decide, by decide, by decide, by decide, by decide, fun p hp => absurd hp (Nat.not_lt_zero p), fun p _ => (by decide : (0 : Int32) = nI 0), fun p i hp => absurd hp (Nat.not_lt_zero p), fun k hk => absurd hk (Nat.not_lt_zero k)⟩
theorem RA_0 (g : Nat → Int32) (f : Nat → Nat) : RA (kn K0) g f := fun p hp => absurd hp (Nat.not_lt_zero p)
theorem RX_0 : RX (freshA K0 0) I00 F00 := ⟨CFG_0, by decide, RA_0 _ _, by decide, (fun h => by cases h), (by rw [bn_f not_Good0]; decide), RA_0 _ _, RA_0 _ _⟩
theorem RM_0 : RM (freshA K0 0) I00 F00 := ⟨CFG_0, by decide, RA_0 _ _, by decide, (fun h => by cases h)⟩
theorem aX_ex (c0 c1 c2 c3 c4 c5 c6 c7 c8 c9 c10 c11 c12 c13 c14 c15 c16 c17 c18 c19 c20 : Nat) (r : Nat → Nat) : ∃ a : Nat → Nat, a 0 = c0 ∧ a 1 = c1 ∧ a 2 = c2 ∧ a 3 = c3 ∧ a 4 = c4 ∧ a 5 = c5 ∧ a 6 = c6 ∧ a 7 = c7 ∧ a 8 = c8 ∧ a 9 = c9 ∧ a 10 = c10 ∧ a 11 = c11 ∧ a 12 = c12 ∧ a 13 = c13 ∧ a 14 = c14 ∧ a 15 = c15 ∧ a 16 = c16 ∧ a 17 = c17 ∧ a 18 = c18 ∧ a 19 = c19 ∧ a 20 = c20 ∧ (fun p => a (8 + (13 + p))) = r := by
  refine ⟨fun j => if j < 21 then ([c0, c1, c2, c3, c4, c5, c6, c7, c8, c9, c10, c11, c12, c13, c14, c15, c16, c17, c18, c19, c20] : List Nat).getD j 0 else r (j - 21), rfl, rfl, rfl, rfl, rfl, rfl, rfl, rfl, rfl, rfl, rfl, rfl, rfl, rfl, rfl, rfl, rfl, rfl, rfl, rfl, rfl, ?_⟩
  funext p
  show (if 8 + (13 + p) < 21 then _ else r (8 + (13 + p) - 21)) = r p
  rw [if_neg (by omega), show 8 + (13 + p) - 21 = p by omega]
theorem aM_ex (c0 c1 c2 c3 c4 c5 c6 c7 c8 c9 c10 c11 c12 : Nat) : ∃ a : Nat → Nat, a 0 = c0 ∧ a 1 = c1 ∧ a 2 = c2 ∧ a 3 = c3 ∧ a 4 = c4 ∧ a 5 = c5 ∧ a 6 = c6 ∧ a 7 = c7 ∧ a 8 = c8 ∧ a 9 = c9 ∧ a 10 = c10 ∧ a 11 = c11 ∧ a 12 = c12 :=
  ⟨fun j => ([c0, c1, c2, c3, c4, c5, c6, c7, c8, c9, c10, c11, c12] : List Nat).getD j 0, rfl, rfl, rfl, rfl, rfl, rfl, rfl, rfl, rfl, rfl, rfl, rfl, rfl⟩
/-- the loop's state: both sides hold what one state says -/
def LWS (X : XC) (t : Nat → ClassId) (a m : Nat → Nat) (b i : Nat) (σ : Abs) (pc : Nat) : Prop := ∀ (I : Nat → Int32) (F : Nat → Nat → Int32) (Lg : Nat → Int64) (I' : Nat → Int32) (F' : Nat → Nat → Int32), INV σ → RX σ I F → RM σ I' F' → XW X 58 1098 (WX a t I F Lg ++ WM m t I' F') [(3, .int (nI i)), (2, .ref (m 0)), (1, .ref (a 0)), (0, .ref b)] pc []
