/-! THE SYSTEM AS NUMBERS: what both sides are held against. -/
abbrev Cfg : Type := Nat × Nat × Nat × Nat × Nat × (Nat → Nat) × (Nat → Nat) × (Nat → Nat) × (Nat → Nat) × (Nat → Nat) × (Nat → Nat) × (Nat → Nat → Nat)
def kn (K : Cfg) : Nat := K.1
def km (K : Cfg) : Nat := K.2.1
def kk (K : Cfg) : Nat := K.2.2.1
def ku (K : Cfg) : Nat := K.2.2.2.1
def kv (K : Cfg) : Nat := K.2.2.2.2.1
def ktop (K : Cfg) : Nat → Nat := K.2.2.2.2.2.1
def ksi (K : Cfg) : Nat → Nat := K.2.2.2.2.2.2.1
def khd (K : Cfg) : Nat → Nat := K.2.2.2.2.2.2.2.1
def kdg (K : Cfg) : Nat → Nat := K.2.2.2.2.2.2.2.2.1
def kla (K : Cfg) : Nat → Nat := K.2.2.2.2.2.2.2.2.2.1
def klb (K : Cfg) : Nat → Nat := K.2.2.2.2.2.2.2.2.2.2.1
def knb (K : Cfg) : Nat → Nat → Nat := K.2.2.2.2.2.2.2.2.2.2.2
/-- the cells that hold a system: ints I (0 places, 1 links, 2 kind, 3 u, 4 v), rows F (0 top, 1 side, 2 held, 3 neighbours, 4 and 5 the links, 13 + p the neighbours of p) -/
def CFG (K : Cfg) (I : Nat → Int32) (F : Nat → Nat → Int32) : Prop := I 0 = nI (kn K) ∧ I 1 = nI (km K) ∧ I 2 = nI (kk K) ∧ I 3 = nI (ku K) ∧ I 4 = nI (kv K) ∧ (∀ p, p < kn K → F 0 p = nI (ktop K p) ∧ F 1 p = nI (ksi K p) ∧ F 2 p = nI (khd K p) - 1) ∧ (∀ p, p < 24 → F 3 p = nI (kdg K p)) ∧ (∀ p i, p < kn K → i < kdg K p → F (13 + p) i = nI (knb K p i)) ∧ (∀ k, k < km K → F 4 k = nI (kla K k) ∧ F 5 k = nI (klb K k))
def WFK (K : Cfg) : Prop := kn K ≤ 24 ∧ km K ≤ 60 ∧ kk K ≤ 2 ∧ (1 ≤ ku K ∧ ku K ≤ 9) ∧ (1 ≤ kv K ∧ kv K ≤ 9) ∧ (∀ p, p < kn K → 1 ≤ ktop K p ∧ ktop K p ≤ 5 ∧ ksi K p ≤ 1 ∧ khd K p ≤ ktop K p + 1) ∧ (∀ p, kdg K p ≤ 6) ∧ (∀ p, kn K ≤ p → kdg K p = 0) ∧ (∀ p i, p < kn K → i < kdg K p → knb K p i < kn K) ∧ (∀ k, k < km K → kla K k < kn K ∧ klb K k < kn K ∧ kla K k ≠ klb K k ∧ (∃ i, i < kdg K (kla K k) ∧ knb K (kla K k) i = klb K k) ∧ (∃ i, i < kdg K (klb K k) ∧ knb K (klb K k) i = kla K k))
theorem WFK.n24 {K : Cfg} (h : WFK K) : kn K ≤ 24 := h.1
theorem WFK.m60 {K : Cfg} (h : WFK K) : km K ≤ 60 := h.2.1
theorem WFK.k2 {K : Cfg} (h : WFK K) : kk K ≤ 2 := h.2.2.1
theorem WFK.u1 {K : Cfg} (h : WFK K) : 1 ≤ ku K := h.2.2.2.1.1
theorem WFK.u9 {K : Cfg} (h : WFK K) : ku K ≤ 9 := h.2.2.2.1.2
theorem WFK.v1 {K : Cfg} (h : WFK K) : 1 ≤ kv K := h.2.2.2.2.1.1
theorem WFK.v9 {K : Cfg} (h : WFK K) : kv K ≤ 9 := h.2.2.2.2.1.2
theorem WFK.pl {K : Cfg} (h : WFK K) {p : Nat} (hp : p < kn K) : 1 ≤ ktop K p ∧ ktop K p ≤ 5 ∧ ksi K p ≤ 1 ∧ khd K p ≤ ktop K p + 1 := h.2.2.2.2.2.1 p hp
theorem WFK.top5 {K : Cfg} (h : WFK K) {p : Nat} (hp : p < kn K) : ktop K p ≤ 5 := (h.pl hp).2.1
theorem WFK.si1 {K : Cfg} (h : WFK K) {p : Nat} (hp : p < kn K) : ksi K p ≤ 1 := (h.pl hp).2.2.1
theorem WFK.hd6 {K : Cfg} (h : WFK K) {p : Nat} (hp : p < kn K) : khd K p ≤ 6 := by have := h.pl hp; omega
theorem WFK.dg6 {K : Cfg} (h : WFK K) (p : Nat) : kdg K p ≤ 6 := h.2.2.2.2.2.2.1 p
theorem WFK.dg0 {K : Cfg} (h : WFK K) {p : Nat} (hp : kn K ≤ p) : kdg K p = 0 := h.2.2.2.2.2.2.2.1 p hp
theorem WFK.nb {K : Cfg} (h : WFK K) {p i : Nat} (hp : p < kn K) (hi : i < kdg K p) : knb K p i < kn K := h.2.2.2.2.2.2.2.2.1 p i hp hi
theorem WFK.lk {K : Cfg} (h : WFK K) {k : Nat} (hk : k < km K) : kla K k < kn K ∧ klb K k < kn K ∧ kla K k ≠ klb K k ∧ (∃ i, i < kdg K (kla K k) ∧ knb K (kla K k) i = klb K k) ∧ (∃ i, i < kdg K (klb K k) ∧ knb K (klb K k) i = kla K k) := h.2.2.2.2.2.2.2.2.2 k hk
theorem WFK.la {K : Cfg} (h : WFK K) {k : Nat} (hk : k < km K) : kla K k < kn K := (h.lk hk).1
theorem WFK.lb {K : Cfg} (h : WFK K) {k : Nat} (hk : k < km K) : klb K k < kn K := (h.lk hk).2.1
theorem CFG.n {K : Cfg} {I : Nat → Int32} {F : Nat → Nat → Int32} (h : CFG K I F) : I 0 = nI (kn K) := h.1
theorem CFG.m {K : Cfg} {I : Nat → Int32} {F : Nat → Nat → Int32} (h : CFG K I F) : I 1 = nI (km K) := h.2.1
theorem CFG.k {K : Cfg} {I : Nat → Int32} {F : Nat → Nat → Int32} (h : CFG K I F) : I 2 = nI (kk K) := h.2.2.1
theorem CFG.u {K : Cfg} {I : Nat → Int32} {F : Nat → Nat → Int32} (h : CFG K I F) : I 3 = nI (ku K) := h.2.2.2.1
theorem CFG.v {K : Cfg} {I : Nat → Int32} {F : Nat → Nat → Int32} (h : CFG K I F) : I 4 = nI (kv K) := h.2.2.2.2.1
theorem CFG.top {K : Cfg} {I : Nat → Int32} {F : Nat → Nat → Int32} (h : CFG K I F) {p : Nat} (hp : p < kn K) : F 0 p = nI (ktop K p) := (h.2.2.2.2.2.1 p hp).1
theorem CFG.si {K : Cfg} {I : Nat → Int32} {F : Nat → Nat → Int32} (h : CFG K I F) {p : Nat} (hp : p < kn K) : F 1 p = nI (ksi K p) := (h.2.2.2.2.2.1 p hp).2.1
theorem CFG.hd {K : Cfg} {I : Nat → Int32} {F : Nat → Nat → Int32} (h : CFG K I F) {p : Nat} (hp : p < kn K) : F 2 p = nI (khd K p) - 1 := (h.2.2.2.2.2.1 p hp).2.2
theorem CFG.dg {K : Cfg} {I : Nat → Int32} {F : Nat → Nat → Int32} (h : CFG K I F) {p : Nat} (hp : p < 24) : F 3 p = nI (kdg K p) := h.2.2.2.2.2.2.1 p hp
theorem CFG.nb {K : Cfg} {I : Nat → Int32} {F : Nat → Nat → Int32} (h : CFG K I F) {p i : Nat} (hp : p < kn K) (hi : i < kdg K p) : F (13 + p) i = nI (knb K p i) := h.2.2.2.2.2.2.2.1 p i hp hi
theorem CFG.la {K : Cfg} {I : Nat → Int32} {F : Nat → Nat → Int32} (h : CFG K I F) {k : Nat} (hk : k < km K) : F 4 k = nI (kla K k) := (h.2.2.2.2.2.2.2.2 k hk).1
theorem CFG.lb {K : Cfg} {I : Nat → Int32} {F : Nat → Nat → Int32} (h : CFG K I F) {k : Nat} (hk : k < km K) : F 5 k = nI (klb K k) := (h.2.2.2.2.2.2.2.2 k hk).2
/-- other ints and rows don't matter -/
theorem CFG.of {K : Cfg} {I I' : Nat → Int32} {F F' : Nat → Nat → Int32} (h : CFG K I F) (hI : ∀ k, k < 5 → I' k = I k) (hF : ∀ j, (j < 6 ∨ 13 ≤ j) → F' j = F j) : CFG K I' F' := by
  obtain ⟨h1, h2, h3, h4, h5, h6, h7, h8, h9⟩ := h
  refine ⟨by rw [hI 0 (by omega)]; exact h1, by rw [hI 1 (by omega)]; exact h2, by rw [hI 2 (by omega)]; exact h3, by rw [hI 3 (by omega)]; exact h4, by rw [hI 4 (by omega)]; exact h5, fun p hp => ?_, fun p hp => ?_, fun p i hp hi => ?_, fun k hk => ?_⟩
  · rw [hF 0 (by omega), hF 1 (by omega), hF 2 (by omega)]; exact h6 p hp
  · rw [hF 3 (by omega)]; exact h7 p hp
  · rw [hF (13 + p) (by omega)]; exact h8 p i hp hi
  · rw [hF 4 (by omega), hF 5 (by omega)]; exact h9 k hk
theorem CFG.upI {K : Cfg} {I : Nat → Int32} {F : Nat → Nat → Int32} (h : CFG K I F) {k : Nat} (hk : 5 ≤ k) (x : Int32) : CFG K (va_up I k x) F := h.of (fun j hj => va_up_ne I x (by omega)) (fun _ _ => rfl)
theorem CFG.upF {K : Cfg} {I : Nat → Int32} {F : Nat → Nat → Int32} (h : CFG K I F) {j : Nat} (h1 : 6 ≤ j) (h2 : j < 13) (f : Nat → Int32) : CFG K I (va_up F j f) := h.of (fun _ _ => rfl) (fun j' hj' => va_up_ne F f (by omega))
/-- a truth as a number -/
noncomputable def bn (P : Prop) : Nat := @ite _ P (Classical.propDecidable P) 1 0
theorem bn_t {P : Prop} (h : P) : bn P = 1 := by unfold bn; exact @if_pos P (Classical.propDecidable P) h _ _ _
theorem bn_f {P : Prop} (h : ¬ P) : bn P = 0 := by unfold bn; exact @if_neg P (Classical.propDecidable P) h _ _ _
theorem bn_le (P : Prop) : bn P ≤ 1 := by
  rcases Classical.em P with h | h
  · rw [bn_t h]; omega
  · rw [bn_f h]; omega
theorem bn_0 {P : Prop} (h : bn P = 0) : ¬ P := fun q => by rw [bn_t q] at h; omega
theorem bn_1 {P : Prop} (h : ¬ bn P = 0) : P := by
  rcases Classical.em P with q | q
  · exact q
  · exact absurd (bn_f q) h
theorem bn_iff {P Q : Prop} (h : P ↔ Q) : bn P = bn Q := by rw [propext h]
theorem nar_bn (P : Prop) : narrow .boolean (.int (nI (bn P))) = .int (nI (bn P)) := by
  rcases Classical.em P with h | h
  · rw [bn_t h]; rfl
  · rw [bn_f h]; rfl
/-- products, sums, counts, the first of a kind -/
def pr (g : Nat → Nat) : Nat → Nat
  | 0 => 1
  | k + 1 => pr g k * g k
def sm (g : Nat → Nat) : Nat → Nat
  | 0 => 0
  | k + 1 => sm g k + g k
noncomputable def cn (P : Nat → Prop) : Nat → Nat
  | 0 => 0
  | k + 1 => cn P k + bn (P k)
noncomputable def fst (P : Nat → Prop) : Nat → Option Nat
  | 0 => none
  | k + 1 => match fst P k with
    | some i => some i
    | none => if bn (P k) = 1 then some k else none
theorem fst_none {P : Nat → Prop} : ∀ {k : Nat}, (∀ j, j < k → ¬ P j) → fst P k = none
  | 0, _ => rfl
  | k + 1, h => by
    unfold fst
    rw [fst_none (fun j hj => h j (by omega))]
    simp [bn_f (h k (by omega))]
theorem fst_some {P : Nat → Prop} {i : Nat} (hi : P i) (h : ∀ j, j < i → ¬ P j) : ∀ {k : Nat}, i < k → fst P k = some i
  | 0, hk => absurd hk (by omega)
  | k + 1, hk => by
    unfold fst
    by_cases e : i = k
    · subst e
      rw [fst_none h]
      simp [bn_t hi]
    · rw [fst_some hi h (show i < k by omega)]
theorem pr_congr {g g' : Nat → Nat} : ∀ {k : Nat}, (∀ j, j < k → g j = g' j) → pr g k = pr g' k
  | 0, _ => rfl
  | k + 1, h => by unfold pr; rw [pr_congr (fun j hj => h j (by omega)), h k (by omega)]
theorem sm_congr {g g' : Nat → Nat} : ∀ {k : Nat}, (∀ j, j < k → g j = g' j) → sm g k = sm g' k
  | 0, _ => rfl
  | k + 1, h => by unfold sm; rw [sm_congr (fun j hj => h j (by omega)), h k (by omega)]
theorem cn_congr {P P' : Nat → Prop} : ∀ {k : Nat}, (∀ j, j < k → (P j ↔ P' j)) → cn P k = cn P' k
  | 0, _ => rfl
  | k + 1, h => by unfold cn; rw [cn_congr (fun j hj => h j (by omega)), bn_iff (h k (by omega))]
theorem cn_le (P : Nat → Prop) : ∀ k, cn P k ≤ k
  | 0 => Nat.le_refl 0
  | k + 1 => by have := cn_le P k; have := bn_le (P k); unfold cn; omega
theorem cn_zero {P : Nat → Prop} : ∀ {k : Nat}, cn P k = 0 ↔ ∀ j, j < k → ¬ P j
  | 0 => ⟨fun _ j hj => by omega, fun _ => rfl⟩
  | k + 1 => by
    unfold cn
    constructor
    · intro h j hj
      by_cases e : j = k
      · subst e; exact bn_0 (by omega)
      · exact (cn_zero (k := k)).mp (by omega) j (by omega)
    · intro h
      rw [(cn_zero (k := k)).mpr (fun j hj => h j (by omega)), bn_f (h k (by omega))]
theorem fst_congr {P P' : Nat → Prop} : ∀ {k : Nat}, (∀ j, j < k → (P j ↔ P' j)) → fst P k = fst P' k
  | 0, _ => rfl
  | k + 1, h => by unfold fst; rw [fst_congr (fun j hj => h j (by omega)), bn_iff (h k (by omega))]
/-- what a place, a link, a state weigh -/
def mostN (K : Cfg) (p : Nat) : Nat := if kk K = 1 then ktop K p else 1
def nohN (K : Cfg) (p h : Nat) : Nat := if kk K = 2 ∧ ksi K p = 1 then 1 - h else h
def pwN (K : Cfg) (p x : Nat) : Nat := if mostN K p < x ∨ (kk K = 1 ∧ khd K p ≠ 0 ∧ x + 1 ≠ khd K p) then 0 else if kk K = 2 then (if x = 1 then ku K else kv K) else 1
def lwN (K : Cfg) (x y : Nat) : Nat := if kk K = 0 then (if x = y then ku K else kv K) else if kk K = 1 then (if x ≤ y + 1 ∧ y ≤ x + 1 then 1 else 0) else if x = 1 ∧ y = 1 then 0 else 1
def alP (K : Cfg) (f : Nat → Nat) : Prop := (∀ p, p < kn K → pwN K p (f p) ≠ 0) ∧ ∀ k, k < km K → lwN K (f (kla K k)) (f (klb K k)) ≠ 0
def woN (K : Cfg) (f : Nat → Nat) : Nat := pr (fun p => pwN K p (f p)) (kn K) * pr (fun k => lwN K (f (kla K k)) (f (klb K k))) (km K)
def waN (K : Cfg) (f : Nat → Nat) (p x : Nat) : Nat := pwN K p x * pr (fun i => lwN K x (f (knb K p i))) (kdg K p)
/-- a tick -/
def mixI (seed t : Int32) : Int32 :=
  let m := seed * 1103515245 + t * 12345 + 1013904223
  let m := (m ^^^ (m.toUInt32 >>> ((15 : Int32).toUInt32 &&& Int32.toUInt32 31)).toInt32) * 739982445
  let m := (m ^^^ (m.toUInt32 >>> ((12 : Int32).toUInt32 &&& Int32.toUInt32 31)).toInt32) * 695872825
  m ^^^ (m.toUInt32 >>> ((15 : Int32).toUInt32 &&& Int32.toUInt32 31)).toInt32
def lotN (x : Int32) : Nat := x.toBitVec.toNat % 65536
def plN (K : Cfg) (x : Int32) : Nat := x.toBitVec.toNat / 65536 % kn K
def whN (K : Cfg) (f : Nat → Nat) (p h : Nat) : Nat := waN K f p (nohN K p h)
noncomputable def chN (K : Cfg) (f : Nat → Nat) (p lot : Nat) : Nat := match fst (fun h => lot * sm (whN K f p) (mostN K p + 1) < 65536 * sm (whN K f p) (h + 1)) (mostN K p + 1) with
  | some h => nohN K p h
  | none => f p
noncomputable def tkN (K : Cfg) (seed : Int32) (f : Nat → Nat) (t : Int32) : Nat → Nat := va_up f (plN K (mixI seed t)) (chN K f (plN K (mixI seed t)) (lotN (mixI seed t)))
noncomputable def itN (K : Cfg) (seed : Int32) (f : Nat → Nat) (t : Int32) : Nat → (Nat → Nat)
  | 0 => f
  | k + 1 => tkN K seed (itN K seed f t k) (t + nI k)
/-- numbers at places: of a row of ints -/
def RA (n : Nat) (g : Nat → Int32) (f : Nat → Nat) : Prop := ∀ p, p < n → g p = nI (f p) ∧ f p ≤ 5
theorem RA.up {n p x : Nat} {g : Nat → Int32} {f : Nat → Nat} (h : RA n g f) (hx : x ≤ 5) : RA n (upd g p (nI x)) (va_up f p x) := by
  intro q hq
  by_cases e : q = p
  · subst e; simp [upd, va_up, hx]
  · simp [upd, va_up, e]; exact h q hq
