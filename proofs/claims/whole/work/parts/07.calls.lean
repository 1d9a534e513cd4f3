/-! Calls and ends in short. -/
def YK (y : MethodName) (b : ByteArray) (nb : Nat) (ret : Option FieldType) (na : Nat) : Prop := (.instanceMethod y : Cond) ∈ XT ∧ (.selects y.cls y y : Cond) ∈ XT ∧ (.initialized y.cls : Cond) ∈ XT ∧ (.code y b nb ret : Cond) ∈ XT ∧ (y.cls ≠ "java/lang/invoke/MethodHandle" ∧ y.cls ≠ "java/lang/invoke/VarHandle" ∧ (parseMethodDescriptor y.desc).map (fun d => d.parameters.length) = some na)
def SK (y : MethodName) (b : ByteArray) (nb : Nat) (ret : Option FieldType) (na : Nat) : Prop := (.static y : Cond) ∈ XT ∧ (.initialized y.cls : Cond) ∈ XT ∧ (.code y b nb ret : Cond) ∈ XT ∧ (y.cls ≠ "java/lang/invoke/MethodHandle" ∧ y.cls ≠ "java/lang/invoke/VarHandle" ∧ (parseMethodDescriptor y.desc).map (fun d => d.parameters.length) = some na)
/-- an answer, and the cells as they were -/
def RP (v : Value) (w0 : va_W) : Option Value → va_W → Prop := fun v' w => v' = some v ∧ w = w0
def EP (P : Value → va_W → Prop) : Option Value → va_W → Prop := fun v w => ∃ x, v = some x ∧ P x w
def VP (P : va_W → Prop) : Option Value → va_W → Prop := fun v w => v = none ∧ P w
theorem RPn {x y : Nat} {w : va_W} (h : x = y) : RP (.int (nI y)) w (some (.int (nI x))) w := ⟨by rw [h], rfl⟩
theorem RPi {x y : Int32} {w : va_W} (h : x = y) : RP (.int y) w (some (.int x)) w := ⟨by rw [h], rfl⟩
theorem RPl {x y : Nat} {w : va_W} (h : x = y) : RP (.long (lN y)) w (some (.long (lN x))) w := ⟨by rw [h], rfl⟩
theorem RPj {x y : Int64} {w : va_W} (h : x = y) : RP (.long y) w (some (.long x)) w := ⟨by rw [h], rfl⟩
theorem nar01 {x : Nat} (h : x ≤ 1) : narrow .boolean (.int (nI x)) = .int (nI x) := by
  rcases (show x = 0 ∨ x = 1 by omega) with rfl | rfl <;> rfl
theorem bn_lt (P : Prop) : bn P < 2147483648 := Nat.lt_of_le_of_lt (bn_le P) (by decide)
section CALLS
variable {X : XC} {l : Launch} {D : va_G} {t : Nat → ClassId} {cc : ByteArray} {own : String} {rm : Room} {nL : Nat} {k n : Nat} {ws : va_W} {lv : List (Nat × Value)} {pc : Nat} {st : List Value} {y : MethodName} {b : ByteArray} {nb ix : Nat} {ret : Option FieldType} {rm1 : Room} {As rest : List Value}
theorem xcV (C : XK X l D t cc own rm nL) {a : Nat} {post : Option Value → va_W → Prop} (hM : CT l D t y b nb ret rm1 0 0 (.ref a :: As) ws post) (hy : YK y b nb ret As.length) (q0 : Nat) {ci : Nat} {fs : List Value} {T : u_T} {N : Nat} (he : ws[q0]? = some (a, .inr (ci, fs))) (hc : cls[ci]? = some (y.cls, T, N)) (hml : (.methodLink own ix y : Cond) ∈ XT)
    (hR : (rm1.frames + 1 ≤ rm.frames ∧ 8 + (nb + 11) + rm1.locals ≤ rm.locals) ∧ (rm1.cells = 0 ∧ rm1.slots = 0) ∧ (k ≤ rm.cells ∧ n ≤ rm.slots)) (hst : st = As.reverse ++ .ref a :: rest) (hrm : (rest.map fun v => v.category).sum ≤ 8) (hdg : decode cc pc = .ok (.invokevirtual ix, 3)) (kk : ∀ v w, post v w → XW X k n w lv (pc + 3) (v.toList ++ rest)) : XW X k n ws lv pc st := by
  have h := xcallV (X := X) (w2 := []) C hM q0 he hc hml hy.1 hy.2.1 hy.2.2.1 hy.2.2.2.1 hy.2.2.2.2 hR.1 hR.2.1 hR.2.2 hst hrm hdg (fun v w hp => by rw [List.append_nil]; exact kk v w hp)
  rw [List.append_nil] at h
  exact h
theorem xcS (C : XK X l D t cc own rm nL) {post : Option Value → va_W → Prop} (hM : CT l D t y b nb ret rm1 0 0 As ws post) (hy : SK y b nb ret As.length) (hml : (.methodLink own ix y : Cond) ∈ XT)
    (hR : (rm1.frames + 1 ≤ rm.frames ∧ 8 + (nb + 11) + rm1.locals ≤ rm.locals) ∧ (rm1.cells = 0 ∧ rm1.slots = 0) ∧ (k ≤ rm.cells ∧ n ≤ rm.slots)) (hst : st = As.reverse ++ rest) (hrm : (rest.map fun v => v.category).sum ≤ 8) (hdg : decode cc pc = .ok (.invokestatic ix, 3)) (kk : ∀ v w, post v w → XW X k n w lv (pc + 3) (v.toList ++ rest)) : XW X k n ws lv pc st := by
  have h := xcallS (X := X) (w2 := []) C hM hml hy.1 hy.2.1 hy.2.2.1 hy.2.2.2 hR.1 hR.2.1 hR.2.2 hst hrm hdg (fun v w hp => by rw [List.append_nil]; exact kk v w hp)
  rw [List.append_nil] at h
  exact h
theorem xcSN (C : XK X l D t cc own rm nL) {post : Option Value → va_W → Prop} {host : String} (hM : CT l D t y b nb ret rm1 0 0 As ws post) (hy : SK y b nb ret As.length) (hml : ∀ s : State, XN s → va_Nw (.methodLinkNest own ix y host) s)
    (hR : (rm1.frames + 1 ≤ rm.frames ∧ 8 + (nb + 11) + rm1.locals ≤ rm.locals) ∧ (rm1.cells = 0 ∧ rm1.slots = 0) ∧ (k ≤ rm.cells ∧ n ≤ rm.slots)) (hst : st = As.reverse ++ rest) (hrm : (rest.map fun v => v.category).sum ≤ 8) (hdg : decode cc pc = .ok (.invokestatic ix, 3)) (kk : ∀ v w, post v w → XW X k n w lv (pc + 3) (v.toList ++ rest)) : XW X k n ws lv pc st := by
  have h := xcallSN (X := X) (w2 := []) C hM hml hy.1 hy.2.1 hy.2.2.1 hy.2.2.2 hR.1 hR.2.1 hR.2.2 hst hrm hdg (fun v w hp => by rw [List.append_nil]; exact kk v w hp)
  rw [List.append_nil] at h
  exact h
theorem xcVR (C : XK X l D t cc own rm nL) {a : Nat} {v : Value} {w0 : va_W} (hM : CT l D t y b nb ret rm1 0 0 (.ref a :: As) ws (RP v w0)) (hy : YK y b nb ret As.length) (q0 : Nat) {ci : Nat} {fs : List Value} {T : u_T} {N : Nat} (he : ws[q0]? = some (a, .inr (ci, fs))) (hc : cls[ci]? = some (y.cls, T, N)) (hml : (.methodLink own ix y : Cond) ∈ XT)
    (hR : (rm1.frames + 1 ≤ rm.frames ∧ 8 + (nb + 11) + rm1.locals ≤ rm.locals) ∧ (rm1.cells = 0 ∧ rm1.slots = 0) ∧ (k ≤ rm.cells ∧ n ≤ rm.slots)) (hst : st = As.reverse ++ .ref a :: rest) (hrm : (rest.map fun v => v.category).sum ≤ 8) (hdg : decode cc pc = .ok (.invokevirtual ix, 3)) (kk : XW X k n w0 lv (pc + 3) (v :: rest)) : XW X k n ws lv pc st :=
  xcV C hM hy q0 he hc hml hR hst hrm hdg (fun v' w h => by obtain ⟨rfl, rfl⟩ := h; exact kk)
theorem xcVE (C : XK X l D t cc own rm nL) {a : Nat} {P : Value → va_W → Prop} (hM : CT l D t y b nb ret rm1 0 0 (.ref a :: As) ws (EP P)) (hy : YK y b nb ret As.length) (q0 : Nat) {ci : Nat} {fs : List Value} {T : u_T} {N : Nat} (he : ws[q0]? = some (a, .inr (ci, fs))) (hc : cls[ci]? = some (y.cls, T, N)) (hml : (.methodLink own ix y : Cond) ∈ XT)
    (hR : (rm1.frames + 1 ≤ rm.frames ∧ 8 + (nb + 11) + rm1.locals ≤ rm.locals) ∧ (rm1.cells = 0 ∧ rm1.slots = 0) ∧ (k ≤ rm.cells ∧ n ≤ rm.slots)) (hst : st = As.reverse ++ .ref a :: rest) (hrm : (rest.map fun v => v.category).sum ≤ 8) (hdg : decode cc pc = .ok (.invokevirtual ix, 3)) (kk : ∀ x w, P x w → XW X k n w lv (pc + 3) (x :: rest)) : XW X k n ws lv pc st :=
  xcV C hM hy q0 he hc hml hR hst hrm hdg (fun v' w h => by obtain ⟨x, rfl, h⟩ := h; exact kk x w h)
theorem xcVV (C : XK X l D t cc own rm nL) {a : Nat} {P : va_W → Prop} (hM : CT l D t y b nb ret rm1 0 0 (.ref a :: As) ws (VP P)) (hy : YK y b nb ret As.length) (q0 : Nat) {ci : Nat} {fs : List Value} {T : u_T} {N : Nat} (he : ws[q0]? = some (a, .inr (ci, fs))) (hc : cls[ci]? = some (y.cls, T, N)) (hml : (.methodLink own ix y : Cond) ∈ XT)
    (hR : (rm1.frames + 1 ≤ rm.frames ∧ 8 + (nb + 11) + rm1.locals ≤ rm.locals) ∧ (rm1.cells = 0 ∧ rm1.slots = 0) ∧ (k ≤ rm.cells ∧ n ≤ rm.slots)) (hst : st = As.reverse ++ .ref a :: rest) (hrm : (rest.map fun v => v.category).sum ≤ 8) (hdg : decode cc pc = .ok (.invokevirtual ix, 3)) (kk : ∀ w, P w → XW X k n w lv (pc + 3) rest) : XW X k n ws lv pc st :=
  xcV C hM hy q0 he hc hml hR hst hrm hdg (fun v' w h => by obtain ⟨rfl, h⟩ := h; exact kk w h)
theorem xcSR (C : XK X l D t cc own rm nL) {v : Value} {w0 : va_W} (hM : CT l D t y b nb ret rm1 0 0 As ws (RP v w0)) (hy : SK y b nb ret As.length) (hml : (.methodLink own ix y : Cond) ∈ XT)
    (hR : (rm1.frames + 1 ≤ rm.frames ∧ 8 + (nb + 11) + rm1.locals ≤ rm.locals) ∧ (rm1.cells = 0 ∧ rm1.slots = 0) ∧ (k ≤ rm.cells ∧ n ≤ rm.slots)) (hst : st = As.reverse ++ rest) (hrm : (rest.map fun v => v.category).sum ≤ 8) (hdg : decode cc pc = .ok (.invokestatic ix, 3)) (kk : XW X k n w0 lv (pc + 3) (v :: rest)) : XW X k n ws lv pc st :=
  xcS C hM hy hml hR hst hrm hdg (fun v' w h => by obtain ⟨rfl, rfl⟩ := h; exact kk)
theorem xcSE (C : XK X l D t cc own rm nL) {P : Value → va_W → Prop} (hM : CT l D t y b nb ret rm1 0 0 As ws (EP P)) (hy : SK y b nb ret As.length) (hml : (.methodLink own ix y : Cond) ∈ XT)
    (hR : (rm1.frames + 1 ≤ rm.frames ∧ 8 + (nb + 11) + rm1.locals ≤ rm.locals) ∧ (rm1.cells = 0 ∧ rm1.slots = 0) ∧ (k ≤ rm.cells ∧ n ≤ rm.slots)) (hst : st = As.reverse ++ rest) (hrm : (rest.map fun v => v.category).sum ≤ 8) (hdg : decode cc pc = .ok (.invokestatic ix, 3)) (kk : ∀ x w, P x w → XW X k n w lv (pc + 3) (x :: rest)) : XW X k n ws lv pc st :=
  xcS C hM hy hml hR hst hrm hdg (fun v' w h => by obtain ⟨x, rfl, h⟩ := h; exact kk x w h)
theorem xcSV (C : XK X l D t cc own rm nL) {P : va_W → Prop} (hM : CT l D t y b nb ret rm1 0 0 As ws (VP P)) (hy : SK y b nb ret As.length) (hml : (.methodLink own ix y : Cond) ∈ XT)
    (hR : (rm1.frames + 1 ≤ rm.frames ∧ 8 + (nb + 11) + rm1.locals ≤ rm.locals) ∧ (rm1.cells = 0 ∧ rm1.slots = 0) ∧ (k ≤ rm.cells ∧ n ≤ rm.slots)) (hst : st = As.reverse ++ rest) (hrm : (rest.map fun v => v.category).sum ≤ 8) (hdg : decode cc pc = .ok (.invokestatic ix, 3)) (kk : ∀ w, P w → XW X k n w lv (pc + 3) rest) : XW X k n ws lv pc st :=
  xcS C hM hy hml hR hst hrm hdg (fun v' w h => by obtain ⟨rfl, h⟩ := h; exact kk w h)
theorem xcSVN (C : XK X l D t cc own rm nL) {P : va_W → Prop} {host : String} (hM : CT l D t y b nb ret rm1 0 0 As ws (VP P)) (hy : SK y b nb ret As.length) (hml : ∀ s : State, XN s → va_Nw (.methodLinkNest own ix y host) s)
    (hR : (rm1.frames + 1 ≤ rm.frames ∧ 8 + (nb + 11) + rm1.locals ≤ rm.locals) ∧ (rm1.cells = 0 ∧ rm1.slots = 0) ∧ (k ≤ rm.cells ∧ n ≤ rm.slots)) (hst : st = As.reverse ++ rest) (hrm : (rest.map fun v => v.category).sum ≤ 8) (hdg : decode cc pc = .ok (.invokestatic ix, 3)) (kk : ∀ w, P w → XW X k n w lv (pc + 3) rest) : XW X k n ws lv pc st :=
  xcSN C hM hy hml hR hst hrm hdg (fun v' w h => by obtain ⟨rfl, h⟩ := h; exact kk w h)
end CALLS
