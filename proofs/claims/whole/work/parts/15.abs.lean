/-! WHAT EACH CALL ANSWERS, AND WHAT IT LEAVES: one value that both sides are held against. -/
/-- the system, the seed, the state at hand, whether something is drawn, what, the tick at which they met -/
abbrev Abs : Type := Cfg × Int32 × (Nat → Nat) × Bool × (Nat → Nat) × Int32
noncomputable def ci {α : Type} (P : Prop) (x y : α) : α := @ite α P (Classical.propDecidable P) x y
theorem ci_t {α : Type} {P : Prop} {x y : α} (h : P) : ci P x y = x := @if_pos P (Classical.propDecidable P) h α x y
theorem ci_f {α : Type} {P : Prop} {x y : α} (h : ¬ P) : ci P x y = y := @if_neg P (Classical.propDecidable P) h α x y
def dkN (d : Bool) : Nat := if d = true then 1 else 0
theorem dk0 {d : Bool} (h : dkN d = 0) : d = false := by cases d <;> simp_all [dkN]
theorem dk1 {d : Bool} (h : ¬ dkN d = 0) : d = true := by cases d <;> simp_all [dkN]
theorem dkN_le (d : Bool) : dkN d ≤ 1 := by cases d <;> decide
def RX : Abs → (Nat → Int32) → (Nat → Nat → Int32) → Prop
  | (K, sd, hd, dk, dw, mt), I, F => CFG K I F ∧ I 10 = sd ∧ RA (kn K) (F 12) hd ∧ I 9 = nI (dkN dk) ∧ (dk = true → RA (kn K) (F 10) dw ∧ I 8 = mt) ∧ I 5 = nI (bn (GoodP K)) ∧ RA (kn K) (F 6) (hS K) ∧ RA (kn K) (F 7) (lS K)
def RM : Abs → (Nat → Int32) → (Nat → Nat → Int32) → Prop
  | (K, sd, hd, dk, dw, mt), I, F => CFG K I F ∧ I 10 = sd ∧ RA (kn K) (F 12) hd ∧ I 9 = nI (dkN dk) ∧ (dk = true → RA (kn K) (F 10) dw ∧ I 8 = mt)
/-- what holds of the state between two calls -/
def INV : Abs → Prop
  | (K, _, hd, dk, dw, _) => WFK K ∧ (∀ p, p < kn K → hd p ≤ ktop K p) ∧ (GoodP K → alP K hd) ∧ (dk = true → GoodP K ∧ alP K dw ∧ ∀ p, p < kn K → dw p ≤ ktop K p)
/-- an answer of the class, of the reference -/
def XO (a : Nat → Nat) (t : Nat → ClassId) (r : Value × Abs) : Option Value → va_W → Prop := EP (fun v w => ∃ (I' : Nat → Int32) (F' : Nat → Nat → Int32) (L' : Nat → Int64), w = WX a t I' F' L' ∧ v = r.1 ∧ RX r.2 I' F')
def MO (b : Nat → Nat) (t : Nat → ClassId) (r : Value × Abs) : Option Value → va_W → Prop := EP (fun v w => ∃ (I' : Nat → Int32) (F' : Nat → Nat → Int32), w = WM b t I' F' ∧ v = r.1 ∧ RM r.2 I' F')
theorem XO.mk {a : Nat → Nat} {t : Nat → ClassId} {r : Value × Abs} {v : Value} {σ : Abs} {I : Nat → Int32} {F : Nat → Nat → Int32} {L : Nat → Int64} (e : r = (v, σ)) (h : RX σ I F) : XO a t r (some v) (WX a t I F L) := ⟨v, rfl, I, F, L, rfl, by rw [e], by rw [e]; exact h⟩
theorem MO.mk {b : Nat → Nat} {t : Nat → ClassId} {r : Value × Abs} {v : Value} {σ : Abs} {I : Nat → Int32} {F : Nat → Nat → Int32} (e : r = (v, σ)) (h : RM σ I F) : MO b t r (some v) (WM b t I F) := ⟨v, rfl, I, F, rfl, by rw [e], by rw [e]; exact h⟩
theorem RX.of {K : Cfg} {sd : Int32} {hd : Nat → Nat} {dk : Bool} {dw : Nat → Nat} {mt : Int32} {I I' : Nat → Int32} {F F' : Nat → Nat → Int32} (h : RX (K, sd, hd, dk, dw, mt) I F) (hI : ∀ q, q ≠ 6 → q ≠ 7 → I' q = I q) (hF : ∀ q, q ≠ 8 → q ≠ 9 → q ≠ 11 → F' q = F q) : RX (K, sd, hd, dk, dw, mt) I' F' := by
  obtain ⟨h1, h2, h3, h4, h5, h6, h7, h8⟩ := h
  refine ⟨h1.of (fun q hq => hI q (by omega) (by omega)) (fun q hq => hF q (by omega) (by omega) (by omega)), by rw [hI 10 (by decide) (by decide)]; exact h2, by rw [hF 12 (by decide) (by decide) (by decide)]; exact h3, by rw [hI 9 (by decide) (by decide)]; exact h4, fun q => ?_, by rw [hI 5 (by decide) (by decide)]; exact h6, by rw [hF 6 (by decide) (by decide) (by decide)]; exact h7, by rw [hF 7 (by decide) (by decide) (by decide)]; exact h8⟩
  rw [hF 10 (by decide) (by decide) (by decide), hI 8 (by decide) (by decide)]
  exact h5 q
theorem RM.of {K : Cfg} {sd : Int32} {hd : Nat → Nat} {dk : Bool} {dw : Nat → Nat} {mt : Int32} {I I' : Nat → Int32} {F F' : Nat → Nat → Int32} (h : RM (K, sd, hd, dk, dw, mt) I F) (hI : ∀ q, q ≠ 7 → I' q = I q) (hF : ∀ q, q ≠ 8 → q ≠ 9 → q ≠ 11 → F' q = F q) : RM (K, sd, hd, dk, dw, mt) I' F' := by
  obtain ⟨h1, h2, h3, h4, h5⟩ := h
  refine ⟨h1.of (fun q hq => hI q (by omega)) (fun q hq => hF q (by omega) (by omega) (by omega)), by rw [hI 10 (by decide)]; exact h2, by rw [hF 12 (by decide) (by decide) (by decide)]; exact h3, by rw [hI 9 (by decide)]; exact h4, fun q => ?_⟩
  rw [hF 10 (by decide) (by decide) (by decide), hI 8 (by decide)]
  exact h5 q
/-- a system that has changed -/
noncomputable def freshA (K : Cfg) (sd : Int32) : Abs := (K, sd, fun p => ci (GoodP K) (lS K p) 0, false, fun _ => 0, 0)
def setK (K : Cfg) (x y z : Nat) : Cfg := (kn K, km K, x, y, z, ktop K, ksi K, khd K, kdg K, kla K, klb K, knb K)
def setH (K : Cfg) (p x : Nat) : Cfg := (kn K, km K, kk K, ku K, kv K, ktop K, ksi K, va_up (khd K) p x, kdg K, kla K, klb K, knb K)
abbrev cl (x : Int32) : Nat := x.toNatClampNeg
noncomputable def opPlace : Abs → Int32 → Int32 → Value × Abs
  | (K, sd, hd, dk, dw, mt), x, y => ci (x < 1 ∨ 5 < x ∨ y < 0 ∨ 1 < y) (.int (-2), (K, sd, hd, dk, dw, mt)) (ci (24 ≤ kn K) (.int (-4), (K, sd, hd, dk, dw, mt)) (.int (nI (kn K)), freshA (addP K (cl x) (cl y)) sd))
noncomputable def opLink : Abs → Int32 → Int32 → Value × Abs
  | (K, sd, hd, dk, dw, mt), x, y => ci (¬ hasP K x ∨ ¬ hasP K y) (.int (-1), (K, sd, hd, dk, dw, mt)) (ci (60 ≤ km K ∨ 6 ≤ kdg K (cl x) ∨ 6 ≤ kdg K (cl y)) (.int (-4), (K, sd, hd, dk, dw, mt)) (ci (x = y ∨ lkdP K (cl x) (cl y)) (.int (-5), (K, sd, hd, dk, dw, mt)) (.int (nI (km K + 1)), freshA (addL K (cl x) (cl y)) sd)))
noncomputable def opKind : Abs → Int32 → Int32 → Int32 → Value × Abs
  | (K, sd, hd, dk, dw, mt), x, y, z => ci (x < 0 ∨ 2 < x ∨ y < 1 ∨ 9 < y ∨ z < 1 ∨ 9 < z) (.int (-2), (K, sd, hd, dk, dw, mt)) (.int 1, freshA (setK K (cl x) (cl y) (cl z)) sd)
noncomputable def opHold : Abs → Int32 → Int32 → Value × Abs
  | (K, sd, hd, dk, dw, mt), x, y => ci (¬ hasP K x) (.int (-1), (K, sd, hd, dk, dw, mt)) (ci (y < -1 ∨ nI (ktop K (cl x)) < y) (.int (-2), (K, sd, hd, dk, dw, mt)) (.int (nI (khd K (cl x)) - 1), freshA (setH K (cl x) (cl (y + 1))) sd))
noncomputable def opGood : Abs → Value × Abs
  | (K, sd, hd, dk, dw, mt) => (.int (nI (bn (GoodP K))), (K, sd, hd, dk, dw, mt))
noncomputable def opHigh : Abs → Int32 → Value × Abs
  | (K, sd, hd, dk, dw, mt), x => ci (¬ hasP K x) (.int (-1), (K, sd, hd, dk, dw, mt)) (ci (¬ GoodP K) (.int (-5), (K, sd, hd, dk, dw, mt)) (.int (nI (hS K (cl x))), (K, sd, hd, dk, dw, mt)))
noncomputable def opLow : Abs → Int32 → Value × Abs
  | (K, sd, hd, dk, dw, mt), x => ci (¬ hasP K x) (.int (-1), (K, sd, hd, dk, dw, mt)) (ci (¬ GoodP K) (.int (-5), (K, sd, hd, dk, dw, mt)) (.int (nI (lS K (cl x))), (K, sd, hd, dk, dw, mt)))
noncomputable def opAt : Abs → Int32 → Value × Abs
  | (K, sd, hd, dk, dw, mt), x => ci (¬ hasP K x) (.int (-1), (K, sd, hd, dk, dw, mt)) (.int (nI (hd (cl x))), (K, sd, hd, dk, dw, mt))
noncomputable def opPut : Abs → Int32 → Int32 → Value × Abs
  | (K, sd, hd, dk, dw, mt), x, y => ci (¬ hasP K x) (.int (-1), (K, sd, hd, dk, dw, mt)) (ci (y < 0 ∨ nI (ktop K (cl x)) < y) (.int (-2), (K, sd, hd, dk, dw, mt)) (ci (¬ alP K (va_up hd (cl x) (cl y))) (.int (-5), (K, sd, hd, dk, dw, mt)) (.int (nI (hd (cl x))), (K, sd, va_up hd (cl x) (cl y), dk, dw, mt))))
noncomputable def opTake : Abs → Int32 → Value × Abs
  | (K, sd, hd, dk, dw, mt), x => ci (x < 0 ∨ 2 < x) (.int (-2), (K, sd, hd, dk, dw, mt)) (ci (x = 2 ∧ dk = false) (.int (-3), (K, sd, hd, dk, dw, mt)) (ci (¬ GoodP K) (.int (-5), (K, sd, hd, dk, dw, mt)) (.int 1, (K, sd, ci (x = 0) (hS K) (ci (x = 1) (lS K) dw), dk, dw, mt))))
def opSeed : Abs → Int32 → Value × Abs
  | (K, sd, hd, dk, dw, mt), x => (.int sd, (K, x, hd, dk, dw, mt))
noncomputable def opTick : Abs → Int32 → Int32 → Value × Abs
  | (K, sd, hd, dk, dw, mt), x, y => ci (y < 0 ∨ 1 < y) (.int (-2), (K, sd, hd, dk, dw, mt)) (ci (kn K = 0) (.int (-3), (K, sd, hd, dk, dw, mt)) (.int (nI (ci (y = 0) (plN K (mixI sd x)) (lotN (mixI sd x)))), (K, sd, hd, dk, dw, mt)))
/-- how many ticks of so many change the state -/
noncomputable def rcN (K : Cfg) (sd : Int32) (f : Nat → Nat) (t : Int32) : Nat → Nat
  | 0 => 0
  | k + 1 => rcN K sd f t k + bn (chgP K sd (itN K sd f t k) (t + nI k))
noncomputable def opRun : Abs → Int32 → Int32 → Value × Abs
  | (K, sd, hd, dk, dw, mt), x, y => ci (y.toInt < x.toInt ∨ 20000 < y.toInt - x.toInt) (.int (-2), (K, sd, hd, dk, dw, mt)) (ci (¬ GoodP K) (.int (-5), (K, sd, hd, dk, dw, mt)) (.int (nI (rcN K sd hd x (y.toInt - x.toInt).toNat)), (K, sd, itN K sd hd x (y.toInt - x.toInt).toNat, dk, dw, mt)))
noncomputable def opGap : Abs → Int32 → Value × Abs
  | (K, sd, hd, dk, dw, mt), x => ci (x < 0 ∨ 4096 < x) (.int (-2), (K, sd, hd, dk, dw, mt)) (ci (¬ GoodP K) (.int (-5), (K, sd, hd, dk, dw, mt)) (.int (nI (cn (fun p => itN K sd (hS K) (-nI (cl x)) (cl x) p ≠ itN K sd (lS K) (-nI (cl x)) (cl x) p) (kn K))), (K, sd, hd, dk, dw, mt)))
noncomputable def opDraw : Abs → Value × Abs
  | (K, sd, hd, dk, dw, mt) => ci (¬ GoodP K) (.int (-5), (K, sd, hd, dk, dw, mt)) (match farN K sd with
    | none => (.int (-5), (K, sd, hd, dk, dw, mt))
    | some e => (.int (nI (2 ^ e)), (K, sd, hd, true, itN K sd (lS K) (-nI (2 ^ e)) (2 ^ e), mtN K sd (2 ^ e) (2 ^ e))))
noncomputable def opDrawn : Abs → Int32 → Value × Abs
  | (K, sd, hd, dk, dw, mt), x => ci (¬ hasP K x) (.int (-1), (K, sd, hd, dk, dw, mt)) (ci (dk = false) (.int (-3), (K, sd, hd, dk, dw, mt)) (.int (nI (dw (cl x))), (K, sd, hd, dk, dw, mt)))
noncomputable def opMet : Abs → Value × Abs
  | (K, sd, hd, dk, dw, mt) => (.int (ci (dk = false) 1 mt), (K, sd, hd, dk, dw, mt))
noncomputable def tlN (K : Cfg) (s : Int32) (p : Nat) : Nat → Option Nat
  | 0 => some 0
  | i + 1 => match tlN K s p i with
    | none => none
    | some c => match farN K (s + nI i) with
      | none => none
      | some e => some (c + itN K (s + nI i) (lS K) (-nI (2 ^ e)) (2 ^ e) p)
noncomputable def opTally : Abs → Int32 → Int32 → Int32 → Value × Abs
  | (K, sd, hd, dk, dw, mt), x, y, z => ci (¬ hasP K x) (.int (-1), (K, sd, hd, dk, dw, mt)) (ci (z < 1 ∨ 8 < z) (.int (-2), (K, sd, hd, dk, dw, mt)) (ci (¬ GoodP K) (.int (-5), (K, sd, hd, dk, dw, mt)) (match tlN K y (cl x) (cl z) with
    | none => (.int (-5), (K, sd, hd, dk, dw, mt))
    | some c => (.int (nI c), (K, sd, hd, dk, dw, mt)))))
/-- a fraction's part in lowest terms -/
noncomputable def shN (K : Cfg) (A : Nat) (y : Int32) : Nat := ci (y = 0) A (suN K 1 0 0) / Nat.gcd A (suN K 1 0 0)
noncomputable def opMany : Abs → Value × Abs
  | (K, sd, hd, dk, dw, mt) => ci (¬ GoodP K) (.int (-5), (K, sd, hd, dk, dw, mt)) (ci (¬ smlP K) (.int (-4), (K, sd, hd, dk, dw, mt)) (.int (nI (suN K 0 0 0)), (K, sd, hd, dk, dw, mt)))
noncomputable def opAll : Abs → Value × Abs
  | (K, sd, hd, dk, dw, mt) => ci (¬ GoodP K) (.long (-5), (K, sd, hd, dk, dw, mt)) (ci (¬ smlP K) (.long (-4), (K, sd, hd, dk, dw, mt)) (.long (lN (suN K 1 0 0)), (K, sd, hd, dk, dw, mt)))
noncomputable def opChance : Abs → Int32 → Value × Abs
  | (K, sd, hd, dk, dw, mt), y => ci (y < 0 ∨ 1 < y) (.long (-2), (K, sd, hd, dk, dw, mt)) (ci (¬ GoodP K) (.long (-5), (K, sd, hd, dk, dw, mt)) (ci (¬ smlP K) (.long (-4), (K, sd, hd, dk, dw, mt)) (.long (lN (shN K (woN K hd) y)), (K, sd, hd, dk, dw, mt))))
noncomputable def opMean : Abs → Int32 → Int32 → Value × Abs
  | (K, sd, hd, dk, dw, mt), x, y => ci (¬ hasP K x) (.long (-1), (K, sd, hd, dk, dw, mt)) (ci (y < 0 ∨ 1 < y) (.long (-2), (K, sd, hd, dk, dw, mt)) (ci (¬ GoodP K) (.long (-5), (K, sd, hd, dk, dw, mt)) (ci (¬ smlP K) (.long (-4), (K, sd, hd, dk, dw, mt)) (.long (lN (shN K (suN K 2 (cl x) (cl x)) y)), (K, sd, hd, dk, dw, mt)))))
noncomputable def opAlike : Abs → Int32 → Int32 → Int32 → Value × Abs
  | (K, sd, hd, dk, dw, mt), x, z, y => ci (¬ hasP K x ∨ ¬ hasP K z) (.long (-1), (K, sd, hd, dk, dw, mt)) (ci (y < 0 ∨ 1 < y) (.long (-2), (K, sd, hd, dk, dw, mt)) (ci (¬ GoodP K) (.long (-5), (K, sd, hd, dk, dw, mt)) (ci (¬ smlP K) (.long (-4), (K, sd, hd, dk, dw, mt)) (.long (lN (shN K (suN K 3 (cl x) (cl z)) y)), (K, sd, hd, dk, dw, mt)))))
noncomputable def opTold : Abs → Int32 → Value × Abs
  | (K, sd, hd, dk, dw, mt), x => (.int (ci (x = 0) (nI (kn K)) (ci (x = 1) (nI (km K)) (ci (x = 2) (nI (kk K)) (ci (x = 3) (nI (ku K)) (ci (x = 4) (nI (kv K)) (ci (x = 5) sd (ci (x = 6) (nI (dkN dk)) (ci (x = 7) (nI (cn (likP K hd) (km K))) (-2147483648))))))))), (K, sd, hd, dk, dw, mt))
noncomputable def opAbout : Abs → Int32 → Int32 → Value × Abs
  | (K, sd, hd, dk, dw, mt), x, y => ci (¬ hasP K x) (.int (-1), (K, sd, hd, dk, dw, mt)) (.int (ci (y = 0) (nI (ktop K (cl x))) (ci (y = 1) (nI (ksi K (cl x))) (ci (y = 2) (nI (khd K (cl x)) - 1) (ci (y = 3) (nI (kdg K (cl x))) (ci (y < 10 ∨ 15 < y) (-2) (ci (cl y - 10 < kdg K (cl x)) (nI (knb K (cl x) (cl y - 10))) (-6))))))), (K, sd, hd, dk, dw, mt))
