/-! ROWS OF MY OWN over the kit's: a configuration (world, locals, place, stack) with heap, written locs and slots hidden. -/
abbrev cls : List vw_C := [(RX5, TX5, 7), (RX1, TX1, 9), (RX2, TX2, 7), (RX4, TX4, 3), (RX0, TX0, 10), (RX3, TX3, 3), (RX6, TX6, 21)]
abbrev xtys (t : Nat → ClassId) : List (ClassId × FieldType) := [(t 0, .int), (t 1, .long), (t 2, .array .int)]
/-- the array class over rows of ints -/
def xOv (U : State) : Prop := (Cond.arrayOver (.array .int)).before #[] U = true
theorem xOv.spec {u : State} (h : xOv u) : ∃ comp c k, u.vm.findClass (FieldType.array .int).toString = some comp ∧ (u.vm.classes.findIdx? fun x => match x.kind with | .array component _ => component == comp | _ => false) = some c ∧ u.vm.classes[c]? = some k ∧ k.kind = .array comp (.array .int) ∧ u.vm.findClass ("[" ++ (FieldType.array .int).toString) = some c := by
  have h1 : (Cond.arrayOver (.array .int)).holds #[] u none u [] = true := h
  simp only [Cond.holds, Cond.value, beq_iff_eq] at h1
  cases hc : u.vm.findClass (FieldType.array .int).toString with
  | none => simp [hc] at h1
  | some comp =>
    simp only [hc, Option.bind_some, Option.bind_eq_some_iff, Option.map_eq_some_iff] at h1
    obtain ⟨c, hi, k, hk, hb⟩ := h1
    obtain ⟨hlt, hp, -⟩ := Array.findIdx?_eq_some_iff_getElem.mp hi
    have hkk : u.vm.classes[c] = k := (Array.getElem?_eq_some_iff.mp hk).2
    rw [hkk] at hp
    cases hkind : k.kind with
    | array component ty =>
      rw [hkind] at hb hp
      simp at hb hp
      exact ⟨comp, c, k, rfl, hi, hk, by rw [hkind, hp, hb.1], hb.2⟩
    | _ => rw [hkind] at hb; simp at hb
theorem xOv.moved {u U : State} (hal : u.vm.Alike U.vm) (h : xOv u) : xOv U := by
  obtain ⟨comp, c, k, hcomp, hidx, hk, hkind, hname⟩ := h.spec
  obtain ⟨k', hk', hek'⟩ := hal.2.2 _ _ hk
  have hkind' : k'.kind = .array comp (.array .int) := by rw [hek']; exact hkind
  have hname' : U.vm.findClass ("[" ++ (FieldType.array .int).toString) = some c := by rw [hal.findClass]; exact hname
  have hcomp' : U.vm.findClass (FieldType.array .int).toString = some comp := by rw [hal.findClass]; exact hcomp
  show (Cond.arrayOver (.array .int)).holds #[] U none U [] = true
  simp only [Cond.holds, Cond.value, hcomp', Option.bind_some, beq_iff_eq]
  rw [Option.bind_eq_some_iff]
  refine ⟨c, (hal.findIdx?_eqK _ (fun _ => rfl)).trans hidx, ?_⟩
  simp [hk', hkind', hname']
theorem xOv.same {u U : State} (h : u.vm = U.vm) (q : xOv u) : xOv U := xOv.moved (by rw [h]; exact Vm.Alike.refl U.vm) q
def XN (s : State) : Prop := (xOv s ∧ va_Nw (.methodLinkNest RX5 9 yX1_init RX5) s) ∧ va_Nw (.methodLinkNest RX0 40 yX5_copyRow RX5) s
theorem XN.warm {s U : State} (hW : s.WarmedH U.vm) (h : XN s) : XN U := ⟨⟨xOv.moved hW.alike h.1.1, va_Nw.warmM hW h.1.2⟩, va_Nw.warmM hW h.2⟩
theorem XN.same {s U : State} (hW : s.vm = U.vm) (h : XN s) : XN U := ⟨⟨xOv.same hW h.1.1, va_Nw.same rfl hW h.1.2⟩, va_Nw.same rfl hW h.2⟩
abbrev XC : Type := Program × Launch × Env × Room × State × MethodId × Array Value × List Frame × Method × Code × (State → Prop) × va_G × (Nat → ClassId) × (Nat → Prop) × Nat
def XW (X : XC) (cells slots : Nat) (ws : va_W) (lv : List (Nat × Value)) (pc : Nat) (st : List Value) : Prop := match X with
  | (p, l, e, R, s, m, args, below, meth, c, Q, D, _, A, nL) => ∀ (H : Heap) (locs : List Loc) (ls : Array Slot), va_P D cls ws H → va_D A ws → va_S A s.heap H locs → lv_has ls nL lv → W p l e R s m args below meth c H locs cells slots Q (F0 m pc ls st)
/-- what a walk knows of its place: the launch, the tables' words, the class, the room -/
def XK (X : XC) (l0 : Launch) (D0 : va_G) (t0 : Nat → ClassId) (cc : ByteArray) (own : String) (rm : Room) (n0 : Nat) : Prop := match X with
  | (p, l, _, R, s, m, args, _, _, c, _, D, t, A, nL) => p.tables.exec = Jvm.exec ∧ c.code = cc ∧ c.maxLocals = nL ∧ s.vm.findClass own = some m.cls ∧ (∀ w ∈ XT, w.before args s = true) ∧ va_K D cls (xtys t) s ∧ XN s ∧ (∀ q : Nat, s.heap.size ≤ q → A q) ∧ l = l0 ∧ D = D0 ∧ t = t0 ∧ R = rm ∧ nL = n0
/-- a method's end: what it gives back, and the cells behind it -/
def CQ (D : va_G) (post : Option Value → va_W → Prop) (Af : Nat → Prop) : Array Value → State → Outcome → State → Prop := fun _ st oc t => (∃ (v : Option Value) (w : va_W), oc = .returned v ∧ post v w ∧ va_P D cls w t.heap ∧ va_D Af w) ∧ va_F Af st t
def CP (D : va_G) (t : Nat → ClassId) (ws : va_W) (av : List Value) (sz : Nat) : Array Value → State → Prop := va_Pc av (fun U => U.heap.size = sz ∧ va_P D cls ws U.heap ∧ va_K D cls (xtys t) U ∧ XN U ∧ va_D (fun _ => True) ws)
/-- a contract: from the cells ws, with the arguments av, the method comes back, 'post answer cells'; mc cells of ms slots are new -/
def CT (l : Launch) (D : va_G) (t : Nat → ClassId) (y : MethodName) (b : ByteArray) (n : Nat) (ret : Option FieldType) (rm : Room) (mc ms : Nat) (av : List Value) (ws : va_W) (post : Option Value → va_W → Prop) : Prop :=
  ∀ sz : Nat, Met l y (.code y b n ret :: XT) rm (CP D t ws av sz) (CQ D post (va_A ws sz)) mc ms (va_A ws sz)
def XR (X : XC) (cells slots : Nat) (ret : Option FieldType) (post : Option Value → va_W → Prop) : Prop := match X with
  | (_, _, _, _, s, _, args, below, meth, _, Q, D, _, A, _) => meth.sig.returnType = ret ∧ meth.locks = false ∧ Q = MQ below (CQ D post A) args s cells slots A
def XI (X : XC) : Prop := match X with
  | (_, _, _, _, _, _, _, _, meth, _, _, _, _, _, _) => meth.name = "<init>"
theorem CP.blind (D : va_G) (t : Nat → ClassId) (ws : va_W) (av : List Value) (sz : Nat) : FrameBlind (CP D t ws av sz) := by
  intro a U g mk ⟨h1, h2, h3, h4, h5, h6⟩
  exact ⟨h1, h2, h3, va_K.moved (u := U) (U := U.calling g mk a) (Vm.Alike.refl U.vm) h4, XN.same (s := U) (U := U.calling g mk a) rfl h5, h6⟩
theorem CT.of {l : Launch} {D : va_G} {t : Nat → ClassId} {y : MethodName} {b : ByteArray} {n : Nat} {ret : Option FieldType} {rm : Room} {mc ms : Nat} {av : List Value} {ws : va_W} {post : Option Value → va_W → Prop}
    (hy : plainName y.cls = true) (hlen : (lg_sl av).length ≤ n) (body : ∀ X : XC, XK X l D t b y.cls rm n → XR X mc ms ret post → XW X 0 0 ws (lv_args 0 av) 0 []) : CT l D t y b n ret rm mc ms av ws post := by
  intro sz
  refine Met.ofW (cc := b) (maxL := n) (ret := ret) hy rfl ?_
  intro p e s m args below meth c s₁ B hml hv
  obtain ⟨rfl, hsz, hP, hK, hN, hD0⟩ := hv
  subst hsz
  have hts := atoms_spec (ws := .code y b n ret :: XT) B.pre
  have hl := lv_entry av (n := n) hlen
  have key := body (p, l, e, rm, s, m, av.toArray, below, meth, c, MQ below (CQ D post (va_A ws s.heap.size)) av.toArray s mc ms (va_A ws s.heap.size), D, t, va_A ws s.heap.size, n)
    ⟨B.exec, B.bytes, hml, findClass_of_methodNamed B.named, fun w hw => hts w (List.mem_cons_of_mem _ hw), hK, hN, fun q h => Or.inr h, rfl, rfl, rfl, rfl, rfl⟩ ⟨B.returns, B.notSynchronized, rfl⟩
  rw [lg_entry_eq]
  exact key s.heap [] _ hP hD0.self va_S.rf hl
theorem CT.ofI {l : Launch} {D : va_G} {t : Nat → ClassId} {y : MethodName} {b : ByteArray} {n : Nat} {ret : Option FieldType} {rm : Room} {mc ms : Nat} {av : List Value} {ws : va_W} {post : Option Value → va_W → Prop}
    (hy : plainName y.cls = true) (hy1 : y.name = "<init>") (hlen : (lg_sl av).length ≤ n) (body : ∀ X : XC, XK X l D t b y.cls rm n → XR X mc ms ret post → XI X → XW X 0 0 ws (lv_args 0 av) 0 []) : CT l D t y b n ret rm mc ms av ws post := by
  intro sz
  refine Met.ofW (cc := b) (maxL := n) (ret := ret) hy rfl ?_
  intro p e s m args below meth c s₁ B hml hv
  obtain ⟨rfl, hsz, hP, hK, hN, hD0⟩ := hv
  subst hsz
  have hts := atoms_spec (ws := .code y b n ret :: XT) B.pre
  have hl := lv_entry av (n := n) hlen
  have key := body (p, l, e, rm, s, m, av.toArray, below, meth, c, MQ below (CQ D post (va_A ws s.heap.size)) av.toArray s mc ms (va_A ws s.heap.size), D, t, va_A ws s.heap.size, n)
    ⟨B.exec, B.bytes, hml, findClass_of_methodNamed B.named, fun w hw => hts w (List.mem_cons_of_mem _ hw), hK, hN, fun q h => Or.inr h, rfl, rfl, rfl, rfl, rfl⟩ ⟨B.returns, B.notSynchronized, rfl⟩ ((name_of_methodNamed B.named B.method).1.trans hy1)
  rw [lg_entry_eq]
  exact key s.heap [] _ hP hD0.self va_S.rf hl
theorem CT.mono {l : Launch} {D : va_G} {t : Nat → ClassId} {y : MethodName} {b : ByteArray} {n : Nat} {ret : Option FieldType} {rm : Room} {mc ms : Nat} {av : List Value} {ws : va_W} {post post' : Option Value → va_W → Prop}
    (h : CT l D t y b n ret rm mc ms av ws post) (hp : ∀ v w, post v w → post' v w) : CT l D t y b n ret rm mc ms av ws post' := by
  intro sz p e ha hc hk s m args below hf hfit happ h1
  obtain ⟨k, o, g1, g2, g3, ⟨⟨v, w, q1, q2, q3, q4⟩, q5⟩, g5⟩ := h sz p e ha hc hk s m args below hf hfit happ h1
  exact ⟨k, o, g1, g2, g3, ⟨⟨v, w, q1, hp v w q2, q3, q4⟩, q5⟩, g5⟩
section ROWS
variable {X : XC} {l : Launch} {D : va_G} {t : Nat → ClassId} {cc : ByteArray} {own : String} {rm : Room} {nL : Nat} {k n : Nat} {ws : va_W} {lv : List (Nat × Value)} {pc : Nat} {st : List Value}
theorem xeq {lv' : List (Nat × Value)} {ws' : va_W} {st' : List Value} {pc' : Nat} (h1 : ws = ws') (h2 : lv = lv') (h3 : pc = pc') (h4 : st = st') (kk : XW X k n ws' lv' pc' st') : XW X k n ws lv pc st := by subst h1 h2 h3 h4; exact kk
theorem xtopi {x y : Int32} (h : x = y) (kk : XW X k n ws lv pc (.int y :: st)) : XW X k n ws lv pc (.int x :: st) := by subst h; exact kk
theorem xtopl {x y : Int64} (h : x = y) (kk : XW X k n ws lv pc (.long y :: st)) : XW X k n ws lv pc (.long x :: st) := by subst h; exact kk
theorem xworld {ws' : va_W} (h : ws = ws') (kk : XW X k n ws' lv pc st) : XW X k n ws lv pc st := by subst h; exact kk
theorem xlocals {lv' : List (Nat × Value)} (h : lv = lv') (kk : XW X k n ws lv' pc st) : XW X k n ws lv pc st := by subst h; exact kk
theorem xsub {lv' : List (Nat × Value)} (ks : List Nat) (h : lv_pick lv ks = lv') (kk : XW X k n ws lv' pc st) : XW X k n ws lv pc st := by
  obtain ⟨p, l1, e, R, s, m, args, below, meth, c, Q, D1, t1, A, nL1⟩ := X
  intro H locs ls hP hD hS hl
  exact kk H locs ls hP hD hS (lv_sub hl ks h)
theorem xiconst (C : XK X l D t cc own rm nL) {z : Int} {v : Int32} (hdg : decode cc pc = .ok (.iconst z, 1)) (hv : Int32.ofInt z = v) (kk : XW X k n ws lv (pc + 1) (.int v :: st)) : XW X k n ws lv pc st := by
  obtain ⟨p, l1, e, R, s, m, args, below, meth, c, Q, D1, t1, A, nL1⟩ := X
  intro H locs ls hP hD hS hl
  exact lv_iconst C.1 C.2.1 hdg hv (kk H locs ls hP hD hS hl)
theorem xbipush (C : XK X l D t cc own rm nL) {z : Int} {v : Int32} (hdg : decode cc pc = .ok (.bipush z, 2)) (hv : (Int8.ofInt z).toInt32 = v) (kk : XW X k n ws lv (pc + 2) (.int v :: st)) : XW X k n ws lv pc st := by
  obtain ⟨p, l1, e, R, s, m, args, below, meth, c, Q, D1, t1, A, nL1⟩ := X
  intro H locs ls hP hD hS hl
  exact lv_bipush C.1 C.2.1 hdg hv (kk H locs ls hP hD hS hl)
theorem xsipush (C : XK X l D t cc own rm nL) {z : Int} {v : Int32} (hdg : decode cc pc = .ok (.sipush z, 3)) (hv : (Int16.ofInt z).toInt32 = v) (kk : XW X k n ws lv (pc + 3) (.int v :: st)) : XW X k n ws lv pc st := by
  obtain ⟨p, l1, e, R, s, m, args, below, meth, c, Q, D1, t1, A, nL1⟩ := X
  intro H locs ls hP hD hS hl
  exact lv_sipush C.1 C.2.1 hdg hv (kk H locs ls hP hD hS hl)
theorem xlconst (C : XK X l D t cc own rm nL) {z : Fin 2} {v : Int64} (hdg : decode cc pc = .ok (.lconst z, 1)) (hv : Int64.ofNat (z : Nat) = v) (kk : XW X k n ws lv (pc + 1) (.long v :: st)) : XW X k n ws lv pc st := by
  obtain ⟨p, l1, e, R, s, m, args, below, meth, c, Q, D1, t1, A, nL1⟩ := X
  intro H locs ls hP hD hS hl
  exact lv_lconst C.1 C.2.1 hdg hv (kk H locs ls hP hD hS hl)
theorem xldc (C : XK X l D t cc own rm nL) {ix : Nat} {v : Int32} (hdg : decode cc pc = .ok (.ldc ix, 2)) (hw : (.constant own ix v : Cond) ∈ XT) (kk : XW X k n ws lv (pc + 2) (.int v :: st)) : XW X k n ws lv pc st := by
  obtain ⟨p, l1, e, R, s, m, args, below, meth, c, Q, D1, t1, A, nL1⟩ := X
  intro H locs ls hP hD hS hl
  exact lv_ldc C.1 C.2.1 C.2.2.2.1 (C.2.2.2.2.1 _ hw) hdg (kk H locs ls hP hD hS hl)
theorem xldc2 (C : XK X l D t cc own rm nL) {ix : Nat} {v : Int64} (hdg : decode cc pc = .ok (.ldc2_w ix, 3)) (hw : (.constantLong own ix v : Cond) ∈ XT) (kk : XW X k n ws lv (pc + 3) (.long v :: st)) : XW X k n ws lv pc st := by
  obtain ⟨p, l1, e, R, s, m, args, below, meth, c, Q, D1, t1, A, nL1⟩ := X
  intro H locs ls hP hD hS hl
  exact lv_ldc2 C.1 C.2.1 C.2.2.2.1 (C.2.2.2.2.1 _ hw) hdg (kk H locs ls hP hD hS hl)
theorem xiload_n (C : XK X l D t cc own rm nL) {z : Fin 4} {x : Int32} (j : Nat) (hj : lv[j]? = some ((z : Nat), .int x)) (hdg : decode cc pc = .ok (.iload_n z, 1)) (kk : XW X k n ws lv (pc + 1) (.int x :: st)) : XW X k n ws lv pc st := by
  obtain ⟨p, l1, e, R, s, m, args, below, meth, c, Q, D1, t1, A, nL1⟩ := X
  intro H locs ls hP hD hS hl
  exact lv_iload_n C.1 C.2.1 hdg rfl (lv_at hl j hj) (kk H locs ls hP hD hS hl)
theorem xiload (C : XK X l D t cc own rm nL) {i : Nat} {x : Int32} (j : Nat) (hj : lv[j]? = some (i, .int x)) (hdg : decode cc pc = .ok (.iload i, 2)) (kk : XW X k n ws lv (pc + 2) (.int x :: st)) : XW X k n ws lv pc st := by
  obtain ⟨p, l1, e, R, s, m, args, below, meth, c, Q, D1, t1, A, nL1⟩ := X
  intro H locs ls hP hD hS hl
  exact lv_iload C.1 C.2.1 hdg (lv_at hl j hj) (kk H locs ls hP hD hS hl)
theorem xlload_n (C : XK X l D t cc own rm nL) {z : Fin 4} {x : Int64} (j : Nat) (hj : lv[j]? = some ((z : Nat), .long x)) (hdg : decode cc pc = .ok (.lload_n z, 1)) (kk : XW X k n ws lv (pc + 1) (.long x :: st)) : XW X k n ws lv pc st := by
  obtain ⟨p, l1, e, R, s, m, args, below, meth, c, Q, D1, t1, A, nL1⟩ := X
  intro H locs ls hP hD hS hl
  exact lv_lload_n C.1 C.2.1 hdg rfl (lv_at hl j hj) (kk H locs ls hP hD hS hl)
theorem xlload (C : XK X l D t cc own rm nL) {i : Nat} {x : Int64} (j : Nat) (hj : lv[j]? = some (i, .long x)) (hdg : decode cc pc = .ok (.lload i, 2)) (kk : XW X k n ws lv (pc + 2) (.long x :: st)) : XW X k n ws lv pc st := by
  obtain ⟨p, l1, e, R, s, m, args, below, meth, c, Q, D1, t1, A, nL1⟩ := X
  intro H locs ls hP hD hS hl
  exact lv_lload C.1 C.2.1 hdg (lv_at hl j hj) (kk H locs ls hP hD hS hl)
theorem xaload_n (C : XK X l D t cc own rm nL) {z : Fin 4} {x : Nat} (j : Nat) (hj : lv[j]? = some ((z : Nat), .ref x)) (hdg : decode cc pc = .ok (.aload_n z, 1)) (kk : XW X k n ws lv (pc + 1) (.ref x :: st)) : XW X k n ws lv pc st := by
  obtain ⟨p, l1, e, R, s, m, args, below, meth, c, Q, D1, t1, A, nL1⟩ := X
  intro H locs ls hP hD hS hl
  exact lv_aload_n C.1 C.2.1 hdg rfl (lv_at hl j hj) (kk H locs ls hP hD hS hl)
theorem xaload (C : XK X l D t cc own rm nL) {i : Nat} {x : Nat} (j : Nat) (hj : lv[j]? = some (i, .ref x)) (hdg : decode cc pc = .ok (.aload i, 2)) (kk : XW X k n ws lv (pc + 2) (.ref x :: st)) : XW X k n ws lv pc st := by
  obtain ⟨p, l1, e, R, s, m, args, below, meth, c, Q, D1, t1, A, nL1⟩ := X
  intro H locs ls hP hD hS hl
  exact lv_aload C.1 C.2.1 hdg (lv_at hl j hj) (kk H locs ls hP hD hS hl)
theorem xistore_n (C : XK X l D t cc own rm nL) {z : Fin 4} {x : Int32} {lv' : List (Nat × Value)} (hdg : decode cc pc = .ok (.istore_n z, 1)) (hn : (z : Nat) < nL) (hl1 : ((z : Nat), Value.int x) :: lv.filter (fun q => !(q.1 == (z : Nat)) && !(q.1 + 1 == (z : Nat) && q.2.category == 2)) = lv') (kk : XW X k n ws lv' (pc + 1) st) : XW X k n ws lv pc (.int x :: st) := by
  obtain ⟨p, l1, e, R, s, m, args, below, meth, c, Q, D1, t1, A, nL1⟩ := X
  intro H locs ls hP hD hS hl
  exact lv_istore_n C.1 C.2.1 hdg rfl  hl (by rw [C.2.2.2.2.2.2.2.2.2.2.2.2]; exact hn) hl1 (fun ls1 hl2 => kk H locs ls1 hP hD hS hl2)
theorem xistore (C : XK X l D t cc own rm nL) {i : Nat} {x : Int32} {lv' : List (Nat × Value)} (hdg : decode cc pc = .ok (.istore i, 2)) (hn : i < nL) (hl1 : (i, Value.int x) :: lv.filter (fun q => !(q.1 == i) && !(q.1 + 1 == i && q.2.category == 2)) = lv') (kk : XW X k n ws lv' (pc + 2) st) : XW X k n ws lv pc (.int x :: st) := by
  obtain ⟨p, l1, e, R, s, m, args, below, meth, c, Q, D1, t1, A, nL1⟩ := X
  intro H locs ls hP hD hS hl
  exact lv_istore C.1 C.2.1 hdg  hl (by rw [C.2.2.2.2.2.2.2.2.2.2.2.2]; exact hn) hl1 (fun ls1 hl2 => kk H locs ls1 hP hD hS hl2)
theorem xlstore_n (C : XK X l D t cc own rm nL) {z : Fin 4} {x : Int64} {lv' : List (Nat × Value)} (hdg : decode cc pc = .ok (.lstore_n z, 1)) (hn : (z : Nat) + 1 < nL) (hl1 : ((z : Nat), Value.long x) :: lv.filter (fun q => !(q.1 == (z : Nat)) && (!(q.1 == (z : Nat) + 1) && !(q.1 + 1 == (z : Nat) && q.2.category == 2))) = lv') (kk : XW X k n ws lv' (pc + 1) st) : XW X k n ws lv pc (.long x :: st) := by
  obtain ⟨p, l1, e, R, s, m, args, below, meth, c, Q, D1, t1, A, nL1⟩ := X
  intro H locs ls hP hD hS hl
  exact lv_lstore_n C.1 C.2.1 hdg rfl  hl (by rw [C.2.2.2.2.2.2.2.2.2.2.2.2]; exact hn) hl1 (fun ls1 hl2 => kk H locs ls1 hP hD hS hl2)
theorem xlstore (C : XK X l D t cc own rm nL) {i : Nat} {x : Int64} {lv' : List (Nat × Value)} (hdg : decode cc pc = .ok (.lstore i, 2)) (hn : i + 1 < nL) (hl1 : (i, Value.long x) :: lv.filter (fun q => !(q.1 == i) && (!(q.1 == i + 1) && !(q.1 + 1 == i && q.2.category == 2))) = lv') (kk : XW X k n ws lv' (pc + 2) st) : XW X k n ws lv pc (.long x :: st) := by
  obtain ⟨p, l1, e, R, s, m, args, below, meth, c, Q, D1, t1, A, nL1⟩ := X
  intro H locs ls hP hD hS hl
  exact lv_lstore C.1 C.2.1 hdg  hl (by rw [C.2.2.2.2.2.2.2.2.2.2.2.2]; exact hn) hl1 (fun ls1 hl2 => kk H locs ls1 hP hD hS hl2)
theorem xastore_n (C : XK X l D t cc own rm nL) {z : Fin 4} {x : Nat} {lv' : List (Nat × Value)} (hdg : decode cc pc = .ok (.astore_n z, 1)) (hn : (z : Nat) < nL) (hl1 : ((z : Nat), Value.ref x) :: lv.filter (fun q => !(q.1 == (z : Nat)) && !(q.1 + 1 == (z : Nat) && q.2.category == 2)) = lv') (kk : XW X k n ws lv' (pc + 1) st) : XW X k n ws lv pc (.ref x :: st) := by
  obtain ⟨p, l1, e, R, s, m, args, below, meth, c, Q, D1, t1, A, nL1⟩ := X
  intro H locs ls hP hD hS hl
  exact lv_astore_n C.1 C.2.1 hdg rfl  hl (by rw [C.2.2.2.2.2.2.2.2.2.2.2.2]; exact hn) hl1 (fun ls1 hl2 => kk H locs ls1 hP hD hS hl2)
theorem xastore (C : XK X l D t cc own rm nL) {i : Nat} {x : Nat} {lv' : List (Nat × Value)} (hdg : decode cc pc = .ok (.astore i, 2)) (hn : i < nL) (hl1 : (i, Value.ref x) :: lv.filter (fun q => !(q.1 == i) && !(q.1 + 1 == i && q.2.category == 2)) = lv') (kk : XW X k n ws lv' (pc + 2) st) : XW X k n ws lv pc (.ref x :: st) := by
  obtain ⟨p, l1, e, R, s, m, args, below, meth, c, Q, D1, t1, A, nL1⟩ := X
  intro H locs ls hP hD hS hl
  exact lv_astore C.1 C.2.1 hdg  hl (by rw [C.2.2.2.2.2.2.2.2.2.2.2.2]; exact hn) hl1 (fun ls1 hl2 => kk H locs ls1 hP hD hS hl2)
theorem xiinc (C : XK X l D t cc own rm nL) {i : Nat} {z : Int} {x v : Int32} {lv' : List (Nat × Value)} (j : Nat) (hj : lv[j]? = some (i, .int x)) (hdg : decode cc pc = .ok (.iinc i z, 3)) (hv : x + Int32.ofInt z = v) (hn : i < nL) (hl1 : (i, Value.int v) :: lv.filter (fun q => !(q.1 == i) && !(q.1 + 1 == i && q.2.category == 2)) = lv') (kk : XW X k n ws lv' (pc + 3) st) : XW X k n ws lv pc st := by
  obtain ⟨p, l1, e, R, s, m, args, below, meth, c, Q, D1, t1, A, nL1⟩ := X
  intro H locs ls hP hD hS hl
  exact lv_iinc C.1 C.2.1 hdg hl hj hv (by rw [C.2.2.2.2.2.2.2.2.2.2.2.2]; exact hn) hl1 (fun ls1 hl2 => kk H locs ls1 hP hD hS hl2)
theorem xiadd (C : XK X l D t cc own rm nL) {x y : Int32} (hdg : decode cc pc = .ok (.iadd, 1)) (kk : XW X k n ws lv (pc + 1) (.int (x + y) :: st)) : XW X k n ws lv pc (.int y :: .int x :: st) := by
  obtain ⟨p, l1, e, R, s, m, args, below, meth, c, Q, D1, t1, A, nL1⟩ := X
  intro H locs ls hP hD hS hl
  exact lv_iadd C.1 C.2.1 hdg (kk H locs ls hP hD hS hl)
theorem xisub (C : XK X l D t cc own rm nL) {x y : Int32} (hdg : decode cc pc = .ok (.isub, 1)) (kk : XW X k n ws lv (pc + 1) (.int (x - y) :: st)) : XW X k n ws lv pc (.int y :: .int x :: st) := by
  obtain ⟨p, l1, e, R, s, m, args, below, meth, c, Q, D1, t1, A, nL1⟩ := X
  intro H locs ls hP hD hS hl
  exact lv_isub C.1 C.2.1 hdg (kk H locs ls hP hD hS hl)
theorem ximul (C : XK X l D t cc own rm nL) {x y : Int32} (hdg : decode cc pc = .ok (.imul, 1)) (kk : XW X k n ws lv (pc + 1) (.int (x * y) :: st)) : XW X k n ws lv pc (.int y :: .int x :: st) := by
  obtain ⟨p, l1, e, R, s, m, args, below, meth, c, Q, D1, t1, A, nL1⟩ := X
  intro H locs ls hP hD hS hl
  exact lv_imul C.1 C.2.1 hdg (kk H locs ls hP hD hS hl)
theorem xiand (C : XK X l D t cc own rm nL) {x y : Int32} (hdg : decode cc pc = .ok (.iand, 1)) (kk : XW X k n ws lv (pc + 1) (.int (x &&& y) :: st)) : XW X k n ws lv pc (.int y :: .int x :: st) := by
  obtain ⟨p, l1, e, R, s, m, args, below, meth, c, Q, D1, t1, A, nL1⟩ := X
  intro H locs ls hP hD hS hl
  exact lv_iand C.1 C.2.1 hdg (kk H locs ls hP hD hS hl)
theorem xixor (C : XK X l D t cc own rm nL) {x y : Int32} (hdg : decode cc pc = .ok (.ixor, 1)) (kk : XW X k n ws lv (pc + 1) (.int (x ^^^ y) :: st)) : XW X k n ws lv pc (.int y :: .int x :: st) := by
  obtain ⟨p, l1, e, R, s, m, args, below, meth, c, Q, D1, t1, A, nL1⟩ := X
  intro H locs ls hP hD hS hl
  exact lv_ixor C.1 C.2.1 hdg (kk H locs ls hP hD hS hl)
theorem xladd (C : XK X l D t cc own rm nL) {x y : Int64} (hdg : decode cc pc = .ok (.ladd, 1)) (kk : XW X k n ws lv (pc + 1) (.long (x + y) :: st)) : XW X k n ws lv pc (.long y :: .long x :: st) := by
  obtain ⟨p, l1, e, R, s, m, args, below, meth, c, Q, D1, t1, A, nL1⟩ := X
  intro H locs ls hP hD hS hl
  exact lv_ladd C.1 C.2.1 hdg (kk H locs ls hP hD hS hl)
theorem xlsub (C : XK X l D t cc own rm nL) {x y : Int64} (hdg : decode cc pc = .ok (.lsub, 1)) (kk : XW X k n ws lv (pc + 1) (.long (x - y) :: st)) : XW X k n ws lv pc (.long y :: .long x :: st) := by
  obtain ⟨p, l1, e, R, s, m, args, below, meth, c, Q, D1, t1, A, nL1⟩ := X
  intro H locs ls hP hD hS hl
  exact lv_lsub C.1 C.2.1 hdg (kk H locs ls hP hD hS hl)
theorem xlmul (C : XK X l D t cc own rm nL) {x y : Int64} (hdg : decode cc pc = .ok (.lmul, 1)) (kk : XW X k n ws lv (pc + 1) (.long (x * y) :: st)) : XW X k n ws lv pc (.long y :: .long x :: st) := by
  obtain ⟨p, l1, e, R, s, m, args, below, meth, c, Q, D1, t1, A, nL1⟩ := X
  intro H locs ls hP hD hS hl
  exact lv_lmul C.1 C.2.1 hdg (kk H locs ls hP hD hS hl)
theorem xineg (C : XK X l D t cc own rm nL) {x : Int32} (hdg : decode cc pc = .ok (.ineg, 1)) (kk : XW X k n ws lv (pc + 1) (.int (-x) :: st)) : XW X k n ws lv pc (.int x :: st) := by
  obtain ⟨p, l1, e, R, s, m, args, below, meth, c, Q, D1, t1, A, nL1⟩ := X
  intro H locs ls hP hD hS hl
  exact lv_ineg C.1 C.2.1 hdg (kk H locs ls hP hD hS hl)
theorem xirem (C : XK X l D t cc own rm nL) {x y : Int32} (hdg : decode cc pc = .ok (.irem, 1)) (hne : ¬ y = 0) (kk : XW X k n ws lv (pc + 1) (.int (x - x / y * y) :: st)) : XW X k n ws lv pc (.int y :: .int x :: st) := by
  obtain ⟨p, l1, e, R, s, m, args, below, meth, c, Q, D1, t1, A, nL1⟩ := X
  intro H locs ls hP hD hS hl
  exact lv_irem C.1 C.2.1 hdg hne (kk H locs ls hP hD hS hl)
theorem xldiv (C : XK X l D t cc own rm nL) {x y : Int64} (hdg : decode cc pc = .ok (.ldiv, 1)) (hne : ¬ y = 0) (kk : XW X k n ws lv (pc + 1) (.long (x / y) :: st)) : XW X k n ws lv pc (.long y :: .long x :: st) := by
  obtain ⟨p, l1, e, R, s, m, args, below, meth, c, Q, D1, t1, A, nL1⟩ := X
  intro H locs ls hP hD hS hl
  exact lv_ldiv C.1 C.2.1 hdg hne (kk H locs ls hP hD hS hl)
theorem xlrem (C : XK X l D t cc own rm nL) {x y : Int64} (hdg : decode cc pc = .ok (.lrem, 1)) (hne : ¬ y = 0) (kk : XW X k n ws lv (pc + 1) (.long (x - x / y * y) :: st)) : XW X k n ws lv pc (.long y :: .long x :: st) := by
  obtain ⟨p, l1, e, R, s, m, args, below, meth, c, Q, D1, t1, A, nL1⟩ := X
  intro H locs ls hP hD hS hl
  exact lv_lrem C.1 C.2.1 hdg hne (kk H locs ls hP hD hS hl)
theorem xiushr (C : XK X l D t cc own rm nL) {x y : Int32} (hdg : decode cc pc = .ok (.iushr, 1)) (kk : XW X k n ws lv (pc + 1) (.int (x.toUInt32 >>> (y.toUInt32 &&& Int32.toUInt32 31)).toInt32 :: st)) : XW X k n ws lv pc (.int y :: .int x :: st) := by
  obtain ⟨p, l1, e, R, s, m, args, below, meth, c, Q, D1, t1, A, nL1⟩ := X
  intro H locs ls hP hD hS hl
  exact lv_iushr C.1 C.2.1 hdg rfl (kk H locs ls hP hD hS hl)
theorem xi2l (C : XK X l D t cc own rm nL) {x : Int32} (hdg : decode cc pc = .ok (.i2l, 1)) (kk : XW X k n ws lv (pc + 1) (.long x.toInt64 :: st)) : XW X k n ws lv pc (.int x :: st) := by
  obtain ⟨p, l1, e, R, s, m, args, below, meth, c, Q, D1, t1, A, nL1⟩ := X
  intro H locs ls hP hD hS hl
  exact lv_i2l C.1 C.2.1 hdg rfl (kk H locs ls hP hD hS hl)
theorem xl2i (C : XK X l D t cc own rm nL) {x : Int64} (hdg : decode cc pc = .ok (.l2i, 1)) (kk : XW X k n ws lv (pc + 1) (.int x.toInt32 :: st)) : XW X k n ws lv pc (.long x :: st) := by
  obtain ⟨p, l1, e, R, s, m, args, below, meth, c, Q, D1, t1, A, nL1⟩ := X
  intro H locs ls hP hD hS hl
  exact lv_l2i C.1 C.2.1 hdg rfl (kk H locs ls hP hD hS hl)
theorem xlcmp (C : XK X l D t cc own rm nL) {x y : Int64} (hdg : decode cc pc = .ok (.lcmp, 1)) (kk : XW X k n ws lv (pc + 1) (.int (lg_cmp x y) :: st)) : XW X k n ws lv pc (.long y :: .long x :: st) := by
  obtain ⟨p, l1, e, R, s, m, args, below, meth, c, Q, D1, t1, A, nL1⟩ := X
  intro H locs ls hP hD hS hl
  exact W.lcmp C.1 C.2.1 hdg (kk H locs ls hP hD hS hl)
theorem xdup (C : XK X l D t cc own rm nL) {va : Value} (hdg : decode cc pc = .ok (.dup, 1)) (hva : va.category = 1) (kk : XW X k n ws lv (pc + 1) (va :: va :: st)) : XW X k n ws lv pc (va :: st) := by
  obtain ⟨p, l1, e, R, s, m, args, below, meth, c, Q, D1, t1, A, nL1⟩ := X
  intro H locs ls hP hD hS hl
  exact lv_dup C.1 C.2.1 hdg hva (kk H locs ls hP hD hS hl)
theorem xpop (C : XK X l D t cc own rm nL) {va : Value} (hdg : decode cc pc = .ok (.pop, 1)) (hva : va.category = 1) (kk : XW X k n ws lv (pc + 1) st) : XW X k n ws lv pc (va :: st) := by
  obtain ⟨p, l1, e, R, s, m, args, below, meth, c, Q, D1, t1, A, nL1⟩ := X
  intro H locs ls hP hD hS hl
  exact lv_pop C.1 C.2.1 hdg hva (kk H locs ls hP hD hS hl)
theorem xdup2 (C : XK X l D t cc own rm nL) {va vb : Value} (hdg : decode cc pc = .ok (.dup2, 1)) (hva : va.category = 1) (hvb : vb.category = 1) (kk : XW X k n ws lv (pc + 1) (va :: vb :: va :: vb :: st)) : XW X k n ws lv pc (va :: vb :: st) := by
  obtain ⟨p, l1, e, R, s, m, args, below, meth, c, Q, D1, t1, A, nL1⟩ := X
  intro H locs ls hP hD hS hl
  exact lv_dup2_11 C.1 C.2.1 hdg hva hvb (kk H locs ls hP hD hS hl)
theorem xif_eq (C : XK X l D t cc own rm nL) {x : Int32} {off : Int} (tgt : Nat) (hdg : decode cc pc = .ok (.ifCond .eq off, 3)) (ht : (pc : Int) + off = (tgt : Int)) (kt : x = 0 → XW X k n ws lv tgt st) (kf : ¬ x = 0 → XW X k n ws lv (pc + 3) st) : XW X k n ws lv pc (.int x :: st) := by
  obtain ⟨p, l1, e, R, s, m, args, below, meth, c, Q, D1, t1, A, nL1⟩ := X
  intro H locs ls hP hD hS hl
  exact lv_if_eq C.1 C.2.1 hdg ht (fun h => kt h H locs ls hP hD hS hl) (fun h => kf h H locs ls hP hD hS hl)
theorem xicmp_eq (C : XK X l D t cc own rm nL) {x y : Int32} {off : Int} (tgt : Nat) (hdg : decode cc pc = .ok (.if_icmp .eq off, 3)) (ht : (pc : Int) + off = (tgt : Int)) (kt : x = y → XW X k n ws lv tgt st) (kf : ¬ x = y → XW X k n ws lv (pc + 3) st) : XW X k n ws lv pc (.int y :: .int x :: st) := by
  obtain ⟨p, l1, e, R, s, m, args, below, meth, c, Q, D1, t1, A, nL1⟩ := X
  intro H locs ls hP hD hS hl
  exact lv_icmp_eq C.1 C.2.1 hdg ht (fun h => kt h H locs ls hP hD hS hl) (fun h => kf h H locs ls hP hD hS hl)
theorem xif_ne (C : XK X l D t cc own rm nL) {x : Int32} {off : Int} (tgt : Nat) (hdg : decode cc pc = .ok (.ifCond .ne off, 3)) (ht : (pc : Int) + off = (tgt : Int)) (kt : ¬ x = 0 → XW X k n ws lv tgt st) (kf : x = 0 → XW X k n ws lv (pc + 3) st) : XW X k n ws lv pc (.int x :: st) := by
  obtain ⟨p, l1, e, R, s, m, args, below, meth, c, Q, D1, t1, A, nL1⟩ := X
  intro H locs ls hP hD hS hl
  exact lv_if_ne C.1 C.2.1 hdg ht (fun h => kt h H locs ls hP hD hS hl) (fun h => kf h H locs ls hP hD hS hl)
theorem xicmp_ne (C : XK X l D t cc own rm nL) {x y : Int32} {off : Int} (tgt : Nat) (hdg : decode cc pc = .ok (.if_icmp .ne off, 3)) (ht : (pc : Int) + off = (tgt : Int)) (kt : ¬ x = y → XW X k n ws lv tgt st) (kf : x = y → XW X k n ws lv (pc + 3) st) : XW X k n ws lv pc (.int y :: .int x :: st) := by
  obtain ⟨p, l1, e, R, s, m, args, below, meth, c, Q, D1, t1, A, nL1⟩ := X
  intro H locs ls hP hD hS hl
  exact lv_icmp_ne C.1 C.2.1 hdg ht (fun h => kt h H locs ls hP hD hS hl) (fun h => kf h H locs ls hP hD hS hl)
theorem xif_lt (C : XK X l D t cc own rm nL) {x : Int32} {off : Int} (tgt : Nat) (hdg : decode cc pc = .ok (.ifCond .lt off, 3)) (ht : (pc : Int) + off = (tgt : Int)) (kt : x < 0 → XW X k n ws lv tgt st) (kf : ¬ x < 0 → XW X k n ws lv (pc + 3) st) : XW X k n ws lv pc (.int x :: st) := by
  obtain ⟨p, l1, e, R, s, m, args, below, meth, c, Q, D1, t1, A, nL1⟩ := X
  intro H locs ls hP hD hS hl
  exact lv_if_lt C.1 C.2.1 hdg ht (fun h => kt h H locs ls hP hD hS hl) (fun h => kf h H locs ls hP hD hS hl)
theorem xicmp_lt (C : XK X l D t cc own rm nL) {x y : Int32} {off : Int} (tgt : Nat) (hdg : decode cc pc = .ok (.if_icmp .lt off, 3)) (ht : (pc : Int) + off = (tgt : Int)) (kt : x < y → XW X k n ws lv tgt st) (kf : ¬ x < y → XW X k n ws lv (pc + 3) st) : XW X k n ws lv pc (.int y :: .int x :: st) := by
  obtain ⟨p, l1, e, R, s, m, args, below, meth, c, Q, D1, t1, A, nL1⟩ := X
  intro H locs ls hP hD hS hl
  exact lv_icmp_lt C.1 C.2.1 hdg ht (fun h => kt h H locs ls hP hD hS hl) (fun h => kf h H locs ls hP hD hS hl)
theorem xif_ge (C : XK X l D t cc own rm nL) {x : Int32} {off : Int} (tgt : Nat) (hdg : decode cc pc = .ok (.ifCond .ge off, 3)) (ht : (pc : Int) + off = (tgt : Int)) (kt : 0 ≤ x → XW X k n ws lv tgt st) (kf : ¬ 0 ≤ x → XW X k n ws lv (pc + 3) st) : XW X k n ws lv pc (.int x :: st) := by
  obtain ⟨p, l1, e, R, s, m, args, below, meth, c, Q, D1, t1, A, nL1⟩ := X
  intro H locs ls hP hD hS hl
  exact lv_if_ge C.1 C.2.1 hdg ht (fun h => kt h H locs ls hP hD hS hl) (fun h => kf h H locs ls hP hD hS hl)
theorem xicmp_ge (C : XK X l D t cc own rm nL) {x y : Int32} {off : Int} (tgt : Nat) (hdg : decode cc pc = .ok (.if_icmp .ge off, 3)) (ht : (pc : Int) + off = (tgt : Int)) (kt : y ≤ x → XW X k n ws lv tgt st) (kf : ¬ y ≤ x → XW X k n ws lv (pc + 3) st) : XW X k n ws lv pc (.int y :: .int x :: st) := by
  obtain ⟨p, l1, e, R, s, m, args, below, meth, c, Q, D1, t1, A, nL1⟩ := X
  intro H locs ls hP hD hS hl
  exact lv_icmp_ge C.1 C.2.1 hdg ht (fun h => kt h H locs ls hP hD hS hl) (fun h => kf h H locs ls hP hD hS hl)
theorem xif_gt (C : XK X l D t cc own rm nL) {x : Int32} {off : Int} (tgt : Nat) (hdg : decode cc pc = .ok (.ifCond .gt off, 3)) (ht : (pc : Int) + off = (tgt : Int)) (kt : 0 < x → XW X k n ws lv tgt st) (kf : ¬ 0 < x → XW X k n ws lv (pc + 3) st) : XW X k n ws lv pc (.int x :: st) := by
  obtain ⟨p, l1, e, R, s, m, args, below, meth, c, Q, D1, t1, A, nL1⟩ := X
  intro H locs ls hP hD hS hl
  exact lv_if_gt C.1 C.2.1 hdg ht (fun h => kt h H locs ls hP hD hS hl) (fun h => kf h H locs ls hP hD hS hl)
theorem xicmp_gt (C : XK X l D t cc own rm nL) {x y : Int32} {off : Int} (tgt : Nat) (hdg : decode cc pc = .ok (.if_icmp .gt off, 3)) (ht : (pc : Int) + off = (tgt : Int)) (kt : y < x → XW X k n ws lv tgt st) (kf : ¬ y < x → XW X k n ws lv (pc + 3) st) : XW X k n ws lv pc (.int y :: .int x :: st) := by
  obtain ⟨p, l1, e, R, s, m, args, below, meth, c, Q, D1, t1, A, nL1⟩ := X
  intro H locs ls hP hD hS hl
  exact lv_icmp_gt C.1 C.2.1 hdg ht (fun h => kt h H locs ls hP hD hS hl) (fun h => kf h H locs ls hP hD hS hl)
theorem xif_le (C : XK X l D t cc own rm nL) {x : Int32} {off : Int} (tgt : Nat) (hdg : decode cc pc = .ok (.ifCond .le off, 3)) (ht : (pc : Int) + off = (tgt : Int)) (kt : x ≤ 0 → XW X k n ws lv tgt st) (kf : ¬ x ≤ 0 → XW X k n ws lv (pc + 3) st) : XW X k n ws lv pc (.int x :: st) := by
  obtain ⟨p, l1, e, R, s, m, args, below, meth, c, Q, D1, t1, A, nL1⟩ := X
  intro H locs ls hP hD hS hl
  exact lv_if_le C.1 C.2.1 hdg ht (fun h => kt h H locs ls hP hD hS hl) (fun h => kf h H locs ls hP hD hS hl)
theorem xicmp_le (C : XK X l D t cc own rm nL) {x y : Int32} {off : Int} (tgt : Nat) (hdg : decode cc pc = .ok (.if_icmp .le off, 3)) (ht : (pc : Int) + off = (tgt : Int)) (kt : x ≤ y → XW X k n ws lv tgt st) (kf : ¬ x ≤ y → XW X k n ws lv (pc + 3) st) : XW X k n ws lv pc (.int y :: .int x :: st) := by
  obtain ⟨p, l1, e, R, s, m, args, below, meth, c, Q, D1, t1, A, nL1⟩ := X
  intro H locs ls hP hD hS hl
  exact lv_icmp_le C.1 C.2.1 hdg ht (fun h => kt h H locs ls hP hD hS hl) (fun h => kf h H locs ls hP hD hS hl)
theorem xgoto (C : XK X l D t cc own rm nL) {off : Int} (tgt : Nat) (hdg : decode cc pc = .ok (.goto off, 3)) (ht : (pc : Int) + off = (tgt : Int)) (kk : XW X k n ws lv tgt st) : XW X k n ws lv pc st := by
  obtain ⟨p, l1, e, R, s, m, args, below, meth, c, Q, D1, t1, A, nL1⟩ := X
  intro H locs ls hP hD hS hl
  exact lv_goto C.1 C.2.1 hdg ht (kk H locs ls hP hD hS hl)
theorem xtabIn (C : XK X l D t cc own rm nL) {dflt lo hi : Int} {offs : Array Int} {len : Nat} {x : Int32} {off : Int} (tgt : Nat) (hdg : decode cc pc = .ok (.tableswitch dflt lo hi offs, len)) (h1 : ¬ x.toInt < lo) (h2 : ¬ hi < x.toInt) (ho : offs[(x.toInt - lo).toNat]? = some off) (ht : (pc : Int) + off = (tgt : Int)) (kk : XW X k n ws lv tgt st) : XW X k n ws lv pc (.int x :: st) := by
  obtain ⟨p, l1, e, R, s, m, args, below, meth, c, Q, D1, t1, A, nL1⟩ := X
  intro H locs ls hP hD hS hl
  exact lv_tableIn C.1 C.2.1 hdg h1 h2 ho ht (kk H locs ls hP hD hS hl)
theorem xtabOut (C : XK X l D t cc own rm nL) {dflt lo hi : Int} {offs : Array Int} {len : Nat} {x : Int32} (tgt : Nat) (hdg : decode cc pc = .ok (.tableswitch dflt lo hi offs, len)) (h : x.toInt < lo ∨ hi < x.toInt) (ht : (pc : Int) + dflt = (tgt : Int)) (kk : XW X k n ws lv tgt st) : XW X k n ws lv pc (.int x :: st) := by
  obtain ⟨p, l1, e, R, s, m, args, below, meth, c, Q, D1, t1, A, nL1⟩ := X
  intro H locs ls hP hD hS hl
  exact lv_tableOut C.1 C.2.1 hdg h ht (kk H locs ls hP hD hS hl)
theorem xlookup (C : XK X l D t cc own rm nL) {dflt : Int} {ps : Array (Int × Int)} {len : Nat} {x : Int32} {off : Int} (tgt : Nat) (hdg : decode cc pc = .ok (.lookupswitch dflt ps, len)) (hp : (ps.toList.zip (ps.toList.drop 1)).all (fun (a, next) => a.1 < next.1) = true) (ho : Op.lookupswitch.offset ps.toList dflt x.toInt = off) (ht : (pc : Int) + off = (tgt : Int)) (kk : XW X k n ws lv tgt st) : XW X k n ws lv pc (.int x :: st) := by
  obtain ⟨p, l1, e, R, s, m, args, below, meth, c, Q, D1, t1, A, nL1⟩ := X
  intro H locs ls hP hD hS hl
  exact lv_lookup C.1 C.2.1 hdg hp ho ht (kk H locs ls hP hD hS hl)
theorem xget (C : XK X l D t cc own rm nL) {Cn : String} {T : u_T} {N ci ix : Nat} {a : Nat} (q0 : Nat) {fs : List Value} (he : ws[q0]? = some (a, .inr (ci, fs))) (hc : cls[ci]? = some (Cn, T, N)) (hin : ∀ w ∈ u_ws Cn T N, w ∈ XT) (j : Nat) (hj : j < N) (hw : (.fieldLink own ix (T j).1 (T j).2.1 (T j).2.2.1 : Cond) ∈ XT) {v : Value} (hv : fs[j]? = some v) (hdg : decode cc pc = .ok (.getfield ix, 3)) (kk : XW X k n ws lv (pc + 3) (v :: st)) : XW X k n ws lv pc (.ref a :: st) := by
  obtain ⟨p, l1, e, R, s, m, args, below, meth, c, Q, D1, t1, A, nL1⟩ := X
  intro H locs ls hP hD hS hl
  obtain ⟨hx, hb, hml', hown, hts, hK, hXN, hA, rfl, rfl, rfl, rfl, rfl⟩ := C
  exact va_get hx hb hts hin hown hK hP q0 he hc j hj (hts _ hw) (fun _ h => h) hv hdg (kk H locs ls hP hD hS hl)
theorem xput (C : XK X l D t cc own rm nL) {Cn : String} {T : u_T} {N ci ix : Nat} {a : Nat} (q0 : Nat) {fs : List Value} {ws' : va_W} (he : ws[q0]? = some (a, .inr (ci, fs))) (hc : cls[ci]? = some (Cn, T, N)) (hin : ∀ w ∈ u_ws Cn T N, w ∈ XT) (ty0 : Nat → FieldType) (hty : ∀ k, k < N → parseFieldDescriptor (T k).2.2.1 = some (ty0 k)) (hnm : ∀ a, a < N → ∀ b, b < N → a ≠ b → (T a).2.1 ≠ (T b).2.1) (j : Nat) (hj : j < N) (hw : (.fieldLink own ix (T j).1 (T j).2.1 (T j).2.2.1 : Cond) ∈ XT) (hfin : (T j).2.2.2 = false) {v : Value} (hn : narrow (ty0 j) v = v) (hfit : fits (ty0 j) v = true) (hl0 : j < fs.length) (hdg : decode cc pc = .ok (.putfield ix, 3)) (hws : ws.set q0 (a, .inr (ci, fs.set j v)) = ws') (kk : XW X k n ws' lv (pc + 3) st) : XW X k n ws lv pc (v :: .ref a :: st) := by
  obtain ⟨p, l1, e, R, s, m, args, below, meth, c, Q, D1, t1, A, nL1⟩ := X
  intro H locs ls hP hD hS hl
  obtain ⟨hx, hb, hml', hown, hts, hK, hXN, hA, rfl, rfl, rfl, rfl, rfl⟩ := C
  subst hws
  exact va_put hx hb hts hin ty0 hty hnm hown hK hP hD hS q0 he hc j hj (hts _ hw) (fun _ h => h) hfin (hty j hj) hn hfit hl0 hdg (fun H1 locs1 hP1 hD1 hS1 => kk H1 locs1 ls hP1 hD1 hS1 hl)
theorem xiald (C : XK X l D t cc own rm nL) {a : Nat} (q0 : Nat) {N : Nat} {f : Nat → Int32} (he : ws[q0]? = some (a, .inl (t 0, N, .inl f))) (j : Nat) (hj : j < N) (hN : N < 2 ^ 31) (hdg : decode cc pc = .ok (.iaload, 1)) (kk : XW X k n ws lv (pc + 1) (.int (f j) :: st)) : XW X k n ws lv pc (.int (nI j) :: .ref a :: st) := by
  obtain ⟨p, l1, e, R, s, m, args, below, meth, c, Q, D1, t1, A, nL1⟩ := X
  intro H locs ls hP hD hS hl
  obtain ⟨hx, hb, hml', hown, hts, hK, hXN, hA, rfl, rfl, rfl, rfl, rfl⟩ := C
  refine va_iald hx hb hK hP q0 0 he rfl (vp_in_nI hj hN) hdg ?_
  rw [nI_clamp (Nat.lt_trans hj hN)]
  exact kk H locs ls hP hD hS hl
theorem xlald (C : XK X l D t cc own rm nL) {a : Nat} (q0 : Nat) {N : Nat} {f : Nat → Int64} (he : ws[q0]? = some (a, .inl (t 1, N, .inr (.inl f)))) (j : Nat) (hj : j < N) (hN : N < 2 ^ 31) (hdg : decode cc pc = .ok (.laload, 1)) (kk : XW X k n ws lv (pc + 1) (.long (f j) :: st)) : XW X k n ws lv pc (.int (nI j) :: .ref a :: st) := by
  obtain ⟨p, l1, e, R, s, m, args, below, meth, c, Q, D1, t1, A, nL1⟩ := X
  intro H locs ls hP hD hS hl
  obtain ⟨hx, hb, hml', hown, hts, hK, hXN, hA, rfl, rfl, rfl, rfl, rfl⟩ := C
  refine va_lald hx hb hK hP q0 1 he rfl (vp_in_nI hj hN) hdg ?_
  rw [nI_clamp (Nat.lt_trans hj hN)]
  exact kk H locs ls hP hD hS hl
theorem xaald (C : XK X l D t cc own rm nL) {a : Nat} (q0 : Nat) {N : Nat} {f : Nat → Option Nat} (he : ws[q0]? = some (a, .inl (t 2, N, .inr (.inr (.inr (.inr f)))))) (j : Nat) (hj : j < N) (hN : N < 2 ^ 31) {v : Nat} (hv : f j = some v) (hdg : decode cc pc = .ok (.aaload, 1)) (kk : XW X k n ws lv (pc + 1) (.ref v :: st)) : XW X k n ws lv pc (.int (nI j) :: .ref a :: st) := by
  obtain ⟨p, l1, e, R, s, m, args, below, meth, c, Q, D1, t1, A, nL1⟩ := X
  intro H locs ls hP hD hS hl
  obtain ⟨hx, hb, hml', hown, hts, hK, hXN, hA, rfl, rfl, rfl, rfl, rfl⟩ := C
  refine W.aald (v := va_rf (f j)) (ty := .array .int) hx hb (hP q0 _ he) ((hK.2 2 _ rfl).1 N (fun j => va_rf (f j))) rfl (fun q => by cases q) (by show ¬ (_ < 0 ∨ (arrV _ _ _).slots.size ≤ _); rw [arrV_size]; exact vp_in_nI hj hN) (by rw [nI_clamp (Nat.lt_trans hj hN)]; show (arrV _ _ _).slots[_]? = _; rw [arrV_read _ _ hj]) rfl rfl hdg ?_
  rw [hv]
  exact kk H locs ls hP hD hS hl
theorem xiast (C : XK X l D t cc own rm nL) {a : Nat} (q0 : Nat) {N : Nat} {f : Nat → Int32} {ws' : va_W} (he : ws[q0]? = some (a, .inl (t 0, N, .inl f))) (j : Nat) (hj : j < N) (hN : N < 2 ^ 31) {x : Int32} (hdg : decode cc pc = .ok (.iastore, 1)) (hws : ws.set q0 (a, .inl (t 0, N, .inl (upd f j x))) = ws') (kk : XW X k n ws' lv (pc + 1) st) : XW X k n ws lv pc (.int x :: .int (nI j) :: .ref a :: st) := by
  obtain ⟨p, l1, e, R, s, m, args, below, meth, c, Q, D1, t1, A, nL1⟩ := X
  intro H locs ls hP hD hS hl
  obtain ⟨hx, hb, hml', hown, hts, hK, hXN, hA, rfl, rfl, rfl, rfl, rfl⟩ := C
  subst hws
  refine va_iast hx hb hK hP hD hS q0 0 he rfl (vp_in_nI hj hN) hdg (fun H1 locs1 hP1 hD1 hS1 => ?_)
  rw [nI_clamp (Nat.lt_trans hj hN)] at hP1 hD1
  exact kk H1 locs1 ls hP1 hD1 hS1 hl
theorem xlast (C : XK X l D t cc own rm nL) {a : Nat} (q0 : Nat) {N : Nat} {f : Nat → Int64} {ws' : va_W} (he : ws[q0]? = some (a, .inl (t 1, N, .inr (.inl f)))) (j : Nat) (hj : j < N) (hN : N < 2 ^ 31) {x : Int64} (hdg : decode cc pc = .ok (.lastore, 1)) (hws : ws.set q0 (a, .inl (t 1, N, .inr (.inl (vp_updL f j x)))) = ws') (kk : XW X k n ws' lv (pc + 1) st) : XW X k n ws lv pc (.long x :: .int (nI j) :: .ref a :: st) := by
  obtain ⟨p, l1, e, R, s, m, args, below, meth, c, Q, D1, t1, A, nL1⟩ := X
  intro H locs ls hP hD hS hl
  obtain ⟨hx, hb, hml', hown, hts, hK, hXN, hA, rfl, rfl, rfl, rfl, rfl⟩ := C
  subst hws
  refine va_last hx hb hK hP hD hS q0 1 he rfl (vp_in_nI hj hN) hdg (fun H1 locs1 hP1 hD1 hS1 => ?_)
  rw [nI_clamp (Nat.lt_trans hj hN)] at hP1 hD1
  exact kk H1 locs1 ls hP1 hD1 hS1 hl
theorem xret {v : Int32} {ty : FieldType} {post : Option Value → va_W → Prop} (C : XK X l D t cc own rm nL) (hR : XR X k n (some ty) post) (hn : narrow ty (.int v) = .int v) (hdg : decode cc pc = .ok (.ireturn, 1)) (hp : post (some (.int v)) ws) : XW X k n ws lv pc [.int v] := by
  obtain ⟨p, l1, e, R, s, m, args, below, meth, c, Q, D1, t1, A, nL1⟩ := X
  intro H locs ls hP hD hS hl
  obtain ⟨hr, hlk, rfl⟩ := hR
  exact W.zret C.1 C.2.1 hr hn (fun u hu _ => ⟨⟨_, _, rfl, hp, by rw [hu]; exact hP, hD⟩, hS.F hu⟩) hS.2.2 hdg hlk
theorem xlret {v : Int64} {post : Option Value → va_W → Prop} (C : XK X l D t cc own rm nL) (hR : XR X k n (some .long) post) (hdg : decode cc pc = .ok (.lreturn, 1)) (hp : post (some (.long v)) ws) : XW X k n ws lv pc [.long v] := by
  obtain ⟨p, l1, e, R, s, m, args, below, meth, c, Q, D1, t1, A, nL1⟩ := X
  intro H locs ls hP hD hS hl
  obtain ⟨hr, hlk, rfl⟩ := hR
  exact W.lret C.1 C.2.1 hr (fun u hu _ => ⟨⟨_, _, rfl, hp, by rw [hu]; exact hP, hD⟩, hS.F hu⟩) hS.2.2 hdg hlk
theorem xvret {post : Option Value → va_W → Prop} (C : XK X l D t cc own rm nL) (hR : XR X k n none post) (hdg : decode cc pc = .ok (.return_, 1)) (hp : post none ws) : XW X k n ws lv pc [] := by
  obtain ⟨p, l1, e, R, s, m, args, below, meth, c, Q, D1, t1, A, nL1⟩ := X
  intro H locs ls hP hD hS hl
  obtain ⟨hr, hlk, rfl⟩ := hR
  exact W.vret C.1 C.2.1 hr (fun u hu _ => ⟨⟨_, _, rfl, hp, by rw [hu]; exact hP, hD⟩, hS.F hu⟩) hS.2.2 hdg hlk
theorem xwiden {k' n' : Nat} (h1 : k ≤ k') (h2 : n ≤ n') (kk : XW X k' n' ws lv pc st) : XW X k n ws lv pc st := by
  obtain ⟨p, l1, e, R, s, m, args, below, meth, c, Q, D1, t1, A, nL1⟩ := X
  intro H locs ls hP hD hS hl
  exact W.widen h1 h2 (kk H locs ls hP hD hS hl)
theorem xrun_of {p : Program} {l1 : Launch} {e : Env} {R : Room} {s : State} {m : MethodId} {args : Array Value} {below : List Frame} {meth : Method} {c : Code} {Q : State → Prop} {D1 : va_G} {t1 : Nat → ClassId} {A : Nat → Prop} {nL1 : Nat} {H : Heap} {locs : List Loc} {ls : Array Slot} {w1 w2 : va_W} {mc ms : Nat} {post : Option Value → va_W → Prop} {rest st0 : List Value} {pc k n : Nat} {lv : List (Nat × Value)} {a : Array Value}
    (hP : va_P D1 cls (w1 ++ w2) H) (hD : va_D A (w1 ++ w2)) (hS : va_S A s.heap H locs) (hA : ∀ q : Nat, s.heap.size ≤ q → A q) (hl : lv_has ls nL1 lv)
    (hr : va_Run p l1 e R s m args below meth c H locs k n mc ms (F0 m pc ls st0) rest (CQ D1 post (va_A w1 H.size) a) (va_A w1 H.size))
    (kk : ∀ v w, post v w → XW (p, l1, e, R, s, m, args, below, meth, c, Q, D1, t1, A, nL1) (k + mc) (n + ms) (w ++ w2) lv (pc + 3) (v.toList ++ rest)) :
    W p l1 e R s m args below meth c H locs k n Q (F0 m pc ls st0) := by
  have hF : ∀ q, va_A w1 H.size q → A q := by
    intro q h
    rcases h with ⟨j, e1, h⟩ | h
    · exact hD.2 j (q, e1) (by rw [List.getElem?_append_left (List.getElem?_eq_some_iff.mp h).1]; exact h)
    · exact hA q (Nat.le_trans hS.1 h)
  intro T hT Xs
  obtain ⟨v, st₀, u, T', L, h0, X', hL, e1, e2, ⟨⟨v', w, hv, hp, hPw, hDw⟩, hz, hk⟩, stp⟩ := hr T hT Xs
  cases hv
  rw [h0] at hz hk
  rw [← e1] at hz hk hPw
  have hP2 : va_P D1 cls w2 H := fun j q hq => hP (w1.length + j) q (by rw [List.getElem?_append_right (by omega), Nat.add_sub_cancel_left]; exact hq)
  have apart : ∀ (j : Nat) (q : Nat × va_E), w2[j]? = some q → q.1 < H.size ∧ ¬ va_A w1 H.size q.1 := by
    intro j q hq
    have hlt := (hP2 j q hq).lt
    refine ⟨hlt, fun h => ?_⟩
    rcases h with ⟨j2, e9, h⟩ | h
    · have hj2 := (List.getElem?_eq_some_iff.mp h).1
      have := hD.1 j2 (w1.length + j) (q.1, e9) q (by rw [List.getElem?_append_left hj2]; exact h) (by rw [List.getElem?_append_right (by omega), Nat.add_sub_cancel_left]; exact hq) rfl
      omega
    · omega
  have hD2 : va_D A w2 := ⟨fun i j x y hx hy hxy => by
      have := hD.1 (w1.length + i) (w1.length + j) x y (by rw [List.getElem?_append_right (by omega), Nat.add_sub_cancel_left]; exact hx) (by rw [List.getElem?_append_right (by omega), Nat.add_sub_cancel_left]; exact hy) hxy
      omega, fun j q hq => hD.2 (w1.length + j) q (by rw [List.getElem?_append_right (by omega), Nat.add_sub_cancel_left]; exact hq)⟩
  obtain ⟨t2, a1, b1⟩ := kk v w hp T'.heap (locs ++ L) ls (va_P.app hPw (fun j q hq => (hP2 j q hq).kept (hk q.1 (apart j q hq).1 (apart j q hq).2)))
    (va_D.app (hDw.weaken (fun _ q _ h => hF q.1 h)) hD2 (fun i j x y hx hy hxy => (apart j y hy).2 (by rw [← hxy]; exact hDw.2 i x hx)))
    ⟨Nat.le_trans hS.1 hz, fun q h1 h2 => by rw [hk q (Nat.lt_of_lt_of_le h1 hS.1) (fun z => h2 (hF q z))]; exact hS.2.1 q h1 h2, fun q hq => by
      rcases List.mem_append.mp hq with h | h
      · exact hS.2.2 q h
      · exact hF _ (hL q h)⟩ hl T' rfl X'
  exact ⟨t2, stp t2 a1, b1⟩
/-- an instance method's call (not a constructor): the callee's cells are w1, the rest stays -/
theorem xcallV (C : XK X l D t cc own rm nL) {w1 w2 : va_W} {y : MethodName} {b : ByteArray} {nb ix mc ms : Nat} {ret : Option FieldType} {rm1 : Room} {As rest : List Value} {a : Nat} {post : Option Value → va_W → Prop} (hM : CT l D t y b nb ret rm1 mc ms (.ref a :: As) w1 post) (q0 : Nat) {ci : Nat} {fs : List Value} {T : u_T} {N : Nat} (he : w1[q0]? = some (a, .inr (ci, fs))) (hc : cls[ci]? = some (y.cls, T, N))
    (hml : (.methodLink own ix y : Cond) ∈ XT) (him : (.instanceMethod y : Cond) ∈ XT) (hse : (.selects y.cls y y : Cond) ∈ XT) (hin : (.initialized y.cls : Cond) ∈ XT) (hco : (.code y b nb ret : Cond) ∈ XT) (hd : y.cls ≠ "java/lang/invoke/MethodHandle" ∧ y.cls ≠ "java/lang/invoke/VarHandle" ∧ (parseMethodDescriptor y.desc).map (fun d => d.parameters.length) = some As.length)
    (hR : rm1.frames + 1 ≤ rm.frames ∧ 8 + (nb + 11) + rm1.locals ≤ rm.locals) (hrc : rm1.cells = mc ∧ rm1.slots = ms) (hsm : k + mc ≤ rm.cells ∧ n + ms ≤ rm.slots) (hst : st = As.reverse ++ .ref a :: rest) (hrm : (rest.map fun v => v.category).sum ≤ 8) (hdg : decode cc pc = .ok (.invokevirtual ix, 3)) (kk : ∀ v w, post v w → XW X (k + mc) (n + ms) (w ++ w2) lv (pc + 3) (v.toList ++ rest)) : XW X k n (w1 ++ w2) lv pc st := by
  subst hst
  obtain ⟨p, l1, e, R, s, m, args, below, meth, c, Q, D1, t1, A, nL1⟩ := X
  intro H locs ls hP hD hS hl
  obtain ⟨hx, hb, hml', hown, hts, hK, hXN, hA, rfl, rfl, rfl, rfl, rfl⟩ := C
  have hP1 : va_P D1 cls w1 H := fun j q hq => hP j q (by rw [List.getElem?_append_left (List.getElem?_eq_some_iff.mp hq).1]; exact hq)
  have hD1 : va_D (fun _ : Nat => True) w1 := ⟨fun i j x y hx hy hxy => hD.1 i j x y (by rw [List.getElem?_append_left (List.getElem?_eq_some_iff.mp hx).1]; exact hx) (by rw [List.getElem?_append_left (List.getElem?_eq_some_iff.mp hy).1]; exact hy) hxy, fun _ _ _ => trivial⟩
  have hcw : CallW R s args own y.cls ix y b nb ret (.code y b nb ret :: XT) rm1 mc ms As.length := ⟨callB_of As.length hts (xGoodT hco) rfl hrc.1 hrc.2 (hts _ hin) (hts _ hml) hd hR, hts _ him, hts _ hse⟩
  exact xrun_of (t1 := t1) hP hD hS hA hl (va_runV ⟨hx, hb, hml', hown, hts⟩ (hM H.size) hcw ⟨CP.blind _ _ _ _ _, va_recv hK hP1 hc he, fun U hU hW => ⟨rfl, by rw [hU], by rw [hU]; exact hP1, va_K.moved hW.alike hK, hXN.warm hW, hD1⟩⟩ rfl rfl hl.1 rfl (lv_room hrm) hdg hsm) kk
theorem xcallS (C : XK X l D t cc own rm nL) {w1 w2 : va_W} {y : MethodName} {b : ByteArray} {nb ix mc ms : Nat} {ret : Option FieldType} {rm1 : Room} {As rest : List Value} {post : Option Value → va_W → Prop} (hM : CT l D t y b nb ret rm1 mc ms As w1 post)
    (hml : (.methodLink own ix y : Cond) ∈ XT) (hstt : (.static y : Cond) ∈ XT) (hin : (.initialized y.cls : Cond) ∈ XT) (hco : (.code y b nb ret : Cond) ∈ XT) (hd : y.cls ≠ "java/lang/invoke/MethodHandle" ∧ y.cls ≠ "java/lang/invoke/VarHandle" ∧ (parseMethodDescriptor y.desc).map (fun d => d.parameters.length) = some As.length)
    (hR : rm1.frames + 1 ≤ rm.frames ∧ 8 + (nb + 11) + rm1.locals ≤ rm.locals) (hrc : rm1.cells = mc ∧ rm1.slots = ms) (hsm : k + mc ≤ rm.cells ∧ n + ms ≤ rm.slots) (hst : st = As.reverse ++ rest) (hrm : (rest.map fun v => v.category).sum ≤ 8) (hdg : decode cc pc = .ok (.invokestatic ix, 3)) (kk : ∀ v w, post v w → XW X (k + mc) (n + ms) (w ++ w2) lv (pc + 3) (v.toList ++ rest)) : XW X k n (w1 ++ w2) lv pc st := by
  subst hst
  obtain ⟨p, l1, e, R, s, m, args, below, meth, c, Q, D1, t1, A, nL1⟩ := X
  intro H locs ls hP hD hS hl
  obtain ⟨hx, hb, hml', hown, hts, hK, hXN, hA, rfl, rfl, rfl, rfl, rfl⟩ := C
  have hP1 : va_P D1 cls w1 H := fun j q hq => hP j q (by rw [List.getElem?_append_left (List.getElem?_eq_some_iff.mp hq).1]; exact hq)
  have hD1 : va_D (fun _ : Nat => True) w1 := ⟨fun i j x y hx hy hxy => hD.1 i j x y (by rw [List.getElem?_append_left (List.getElem?_eq_some_iff.mp hx).1]; exact hx) (by rw [List.getElem?_append_left (List.getElem?_eq_some_iff.mp hy).1]; exact hy) hxy, fun _ _ _ => trivial⟩
  exact xrun_of (t1 := t1) hP hD hS hA hl (va_runS ⟨hx, hb, hml', hown, hts⟩ (hM H.size) ⟨callB_of As.length hts (xGoodT hco) rfl hrc.1 hrc.2 (hts _ hin) (hts _ hml) hd hR, hts _ hstt⟩ ⟨CP.blind _ _ _ _ _, fun U hU hW => ⟨rfl, by rw [hU], by rw [hU]; exact hP1, va_K.moved hW.alike hK, hXN.warm hW, hD1⟩⟩ rfl rfl hl.1 rfl (lv_room hrm) hdg hsm) kk
theorem xcallI (C : XK X l D t cc own rm nL) {w1 w2 : va_W} {y : MethodName} {b : ByteArray} {nb ix mc ms : Nat} {rm1 : Room} {As rest : List Value} {a : Nat} {post : Option Value → va_W → Prop} (hM : CT l D t y b nb none rm1 mc ms (.ref a :: As) w1 post)
    (hml : (.methodLink own ix y : Cond) ∈ XT) (him : (.instanceMethod y : Cond) ∈ XT) (hin : (.initialized y.cls : Cond) ∈ XT) (hy1 : y.name = "<init>") (hco : (.code y b nb none : Cond) ∈ XT) (hd : y.cls ≠ "java/lang/invoke/MethodHandle" ∧ y.cls ≠ "java/lang/invoke/VarHandle" ∧ (parseMethodDescriptor y.desc).map (fun d => d.parameters.length) = some As.length)
    (hR : rm1.frames + 1 ≤ rm.frames ∧ 8 + (nb + 11) + rm1.locals ≤ rm.locals) (hrc : rm1.cells = mc ∧ rm1.slots = ms) (hsm : k + mc ≤ rm.cells ∧ n + ms ≤ rm.slots) (hst : st = As.reverse ++ .ref a :: rest) (hrm : (rest.map fun v => v.category).sum ≤ 8) (hdg : decode cc pc = .ok (.invokespecial ix, 3)) (kk : ∀ v w, post v w → XW X (k + mc) (n + ms) (w ++ w2) lv (pc + 3) (v.toList ++ rest)) : XW X k n (w1 ++ w2) lv pc st := by
  subst hst
  obtain ⟨p, l1, e, R, s, m, args, below, meth, c, Q, D1, t1, A, nL1⟩ := X
  intro H locs ls hP hD hS hl
  obtain ⟨hx, hb, hml', hown, hts, hK, hXN, hA, rfl, rfl, rfl, rfl, rfl⟩ := C
  have hP1 : va_P D1 cls w1 H := fun j q hq => hP j q (by rw [List.getElem?_append_left (List.getElem?_eq_some_iff.mp hq).1]; exact hq)
  have hD1 : va_D (fun _ : Nat => True) w1 := ⟨fun i j x y hx hy hxy => hD.1 i j x y (by rw [List.getElem?_append_left (List.getElem?_eq_some_iff.mp hx).1]; exact hx) (by rw [List.getElem?_append_left (List.getElem?_eq_some_iff.mp hy).1]; exact hy) hxy, fun _ _ _ => trivial⟩
  exact xrun_of (t1 := t1) hP hD hS hA hl (va_runI ⟨hx, hb, hml', hown, hts⟩ (hM H.size) ⟨callB_of As.length hts (xGoodT hco) rfl hrc.1 hrc.2 (hts _ hin) (hts _ hml) hd hR, hy1, hts _ him⟩ ⟨CP.blind _ _ _ _ _, fun U hU hW => ⟨rfl, by rw [hU], by rw [hU]; exact hP1, va_K.moved hW.alike hK, hXN.warm hW, hD1⟩⟩ rfl rfl hl.1 rfl (lv_room hrm) hdg hsm) kk
theorem xcallSN (C : XK X l D t cc own rm nL) {w1 w2 : va_W} {y : MethodName} {b : ByteArray} {nb ix mc ms : Nat} {ret : Option FieldType} {rm1 : Room} {As rest : List Value} {host : String} {post : Option Value → va_W → Prop} (hM : CT l D t y b nb ret rm1 mc ms As w1 post)
    (hml : ∀ s : State, XN s → va_Nw (.methodLinkNest own ix y host) s) (hstt : (.static y : Cond) ∈ XT) (hin : (.initialized y.cls : Cond) ∈ XT) (hco : (.code y b nb ret : Cond) ∈ XT) (hd : y.cls ≠ "java/lang/invoke/MethodHandle" ∧ y.cls ≠ "java/lang/invoke/VarHandle" ∧ (parseMethodDescriptor y.desc).map (fun d => d.parameters.length) = some As.length)
    (hR : rm1.frames + 1 ≤ rm.frames ∧ 8 + (nb + 11) + rm1.locals ≤ rm.locals) (hrc : rm1.cells = mc ∧ rm1.slots = ms) (hsm : k + mc ≤ rm.cells ∧ n + ms ≤ rm.slots) (hst : st = As.reverse ++ rest) (hrm : (rest.map fun v => v.category).sum ≤ 8) (hdg : decode cc pc = .ok (.invokestatic ix, 3)) (kk : ∀ v w, post v w → XW X (k + mc) (n + ms) (w ++ w2) lv (pc + 3) (v.toList ++ rest)) : XW X k n (w1 ++ w2) lv pc st := by
  subst hst
  obtain ⟨p, l1, e, R, s, m, args, below, meth, c, Q, D1, t1, A, nL1⟩ := X
  intro H locs ls hP hD hS hl
  obtain ⟨hx, hb, hml', hown, hts, hK, hXN, hA, rfl, rfl, rfl, rfl, rfl⟩ := C
  have hP1 : va_P D1 cls w1 H := fun j q hq => hP j q (by rw [List.getElem?_append_left (List.getElem?_eq_some_iff.mp hq).1]; exact hq)
  have hD1 : va_D (fun _ : Nat => True) w1 := ⟨fun i j x y hx hy hxy => hD.1 i j x y (by rw [List.getElem?_append_left (List.getElem?_eq_some_iff.mp hx).1]; exact hx) (by rw [List.getElem?_append_left (List.getElem?_eq_some_iff.mp hy).1]; exact hy) hxy, fun _ _ _ => trivial⟩
  exact xrun_of (t1 := t1) hP hD hS hA hl (va_runSN ⟨hx, hb, hml', hown, hts⟩ (hM H.size) ⟨va_cnB As.length hts (xGoodT hco) rfl hrc.1 hrc.2 (hml _ hXN) (hts _ hin) hd hR, hts _ hstt, trivial⟩ ⟨CP.blind _ _ _ _ _, fun U hU hW => ⟨rfl, by rw [hU], by rw [hU]; exact hP1, va_K.moved hW.alike hK, hXN.warm hW, hD1⟩⟩ rfl rfl hl.1 rfl (lv_room hrm) hdg hsm) kk
theorem xcallIN (C : XK X l D t cc own rm nL) {w1 w2 : va_W} {y : MethodName} {b : ByteArray} {nb ix mc ms : Nat} {rm1 : Room} {As rest : List Value} {a : Nat} {host : String} {post : Option Value → va_W → Prop} (hM : CT l D t y b nb none rm1 mc ms (.ref a :: As) w1 post)
    (hml : ∀ s : State, XN s → va_Nw (.methodLinkNest own ix y host) s) (him : (.instanceMethod y : Cond) ∈ XT) (hin : (.initialized y.cls : Cond) ∈ XT) (hy1 : y.name = "<init>") (hco : (.code y b nb none : Cond) ∈ XT) (hd : y.cls ≠ "java/lang/invoke/MethodHandle" ∧ y.cls ≠ "java/lang/invoke/VarHandle" ∧ (parseMethodDescriptor y.desc).map (fun d => d.parameters.length) = some As.length)
    (hR : rm1.frames + 1 ≤ rm.frames ∧ 8 + (nb + 11) + rm1.locals ≤ rm.locals) (hrc : rm1.cells = mc ∧ rm1.slots = ms) (hsm : k + mc ≤ rm.cells ∧ n + ms ≤ rm.slots) (hst : st = As.reverse ++ .ref a :: rest) (hrm : (rest.map fun v => v.category).sum ≤ 8) (hdg : decode cc pc = .ok (.invokespecial ix, 3)) (kk : ∀ v w, post v w → XW X (k + mc) (n + ms) (w ++ w2) lv (pc + 3) (v.toList ++ rest)) : XW X k n (w1 ++ w2) lv pc st := by
  subst hst
  obtain ⟨p, l1, e, R, s, m, args, below, meth, c, Q, D1, t1, A, nL1⟩ := X
  intro H locs ls hP hD hS hl
  obtain ⟨hx, hb, hml', hown, hts, hK, hXN, hA, rfl, rfl, rfl, rfl, rfl⟩ := C
  have hP1 : va_P D1 cls w1 H := fun j q hq => hP j q (by rw [List.getElem?_append_left (List.getElem?_eq_some_iff.mp hq).1]; exact hq)
  have hD1 : va_D (fun _ : Nat => True) w1 := ⟨fun i j x y hx hy hxy => hD.1 i j x y (by rw [List.getElem?_append_left (List.getElem?_eq_some_iff.mp hx).1]; exact hx) (by rw [List.getElem?_append_left (List.getElem?_eq_some_iff.mp hy).1]; exact hy) hxy, fun _ _ _ => trivial⟩
  exact xrun_of (t1 := t1) hP hD hS hA hl (va_runIN ⟨hx, hb, hml', hown, hts⟩ (hM H.size) ⟨va_cnB As.length hts (xGoodT hco) rfl hrc.1 hrc.2 (hml _ hXN) (hts _ hin) hd hR, hy1, hts _ him⟩ ⟨CP.blind _ _ _ _ _, fun U hU hW => ⟨rfl, by rw [hU], by rw [hU]; exact hP1, va_K.moved hW.alike hK, hXN.warm hW, hD1⟩⟩ rfl rfl hl.1 rfl (lv_room hrm) hdg hsm) kk
theorem xmin (C : XK X l D t cc own rm nL) {ix : Nat} {x y : Int32} (hw : (.methodLink own ix Lib.Math.min.name : Cond) ∈ XT) (h1 : 1 ≤ rm.frames) (h2 : (st.map fun v => v.category).sum + 13 ≤ rm.locals) (h3 : k ≤ rm.cells ∧ n ≤ rm.slots) (hdg : decode cc pc = .ok (.invokestatic ix, 3)) (kk : XW X k n ws lv (pc + 3) (.int (if y < x then y else x) :: st)) : XW X k n ws lv pc (.int y :: .int x :: st) := by
  obtain ⟨p, l1, e, R, s, m, args, below, meth, c, Q, D1, t1, A, nL1⟩ := X
  intro H locs ls hP hD hS hl
  obtain ⟨hx, hb, hml', hown, hts, hK, hXN, hA, rfl, rfl, rfl, rfl, rfl⟩ := C
  exact va_mmin hx hb (hml'.trans hl.1.symm) hown (hts _ hw) (hts _ xst_J9_min) (hts _ xin_J9) (hts _ xco_J9_min) h1 h2 h3.1 h3.2 hdg (kk H locs ls hP hD hS hl)
theorem xmax (C : XK X l D t cc own rm nL) {ix : Nat} {x y : Int32} (hw : (.methodLink own ix Lib.Math.max.name : Cond) ∈ XT) (h1 : 1 ≤ rm.frames) (h2 : (st.map fun v => v.category).sum + 13 ≤ rm.locals) (h3 : k ≤ rm.cells ∧ n ≤ rm.slots) (hdg : decode cc pc = .ok (.invokestatic ix, 3)) (kk : XW X k n ws lv (pc + 3) (.int (if x < y then y else x) :: st)) : XW X k n ws lv pc (.int y :: .int x :: st) := by
  obtain ⟨p, l1, e, R, s, m, args, below, meth, c, Q, D1, t1, A, nL1⟩ := X
  intro H locs ls hP hD hS hl
  obtain ⟨hx, hb, hml', hown, hts, hK, hXN, hA, rfl, rfl, rfl, rfl, rfl⟩ := C
  exact va_mmax hx hb (hml'.trans hl.1.symm) hown (hts _ hw) (hts _ xst_J9_max) (hts _ xin_J9) (hts _ xco_J9_max) h1 h2 h3.1 h3.2 hdg (kk H locs ls hP hD hS hl)
theorem xcopy (C : XK X l D t cc own rm nL) {ix : Nat} (q0 q1 : Nat) {a0 a1 n0 n1 : Nat} {f g : Nat → Int32} {ws' : va_W} (ha0 : ws[q0]? = some (a0, .inl (t 0, n0, .inl f))) (ha1 : ws[q1]? = some (a1, .inl (t 0, n1, .inl g))) (N : Nat) (hN : N < 2 ^ 31) (hn0 : N ≤ n0) (hn1 : N ≤ n1) (hw : (.methodLink own ix arraycopyName : Cond) ∈ XT) (h1 : 1 ≤ rm.frames) (h2 : (st.map fun v => v.category).sum + (nativeFrameWords "java/lang/System" "arraycopy" 5 + 11) ≤ rm.locals) (hdg : decode cc pc = .ok (.invokestatic ix, 3)) (hws : ws.set q1 (a1, .inl (t 0, n1, .inl (va_cpy f g 0 0 N))) = ws') (kk : XW X k n ws' lv (pc + 3) st) : XW X k n ws lv pc (.int (nI N) :: .int 0 :: .ref a1 :: .int 0 :: .ref a0 :: st) := by
  obtain ⟨p, l1, e, R, s, m, args, below, meth, c, Q, D1, t1, A, nL1⟩ := X
  intro H locs ls hP hD hS hl
  obtain ⟨hx, hb, hml', hown, hts, hK, hXN, hA, rfl, rfl, rfl, rfl, rfl⟩ := C
  subst hws
  have hc : (nI N).toNatClampNeg = N := nI_clamp hN
  have h0 : (0 : Int32).toNatClampNeg = 0 := by decide +kernel
  refine va_copyi hx hb (hml'.trans hl.1.symm) hown (hts _ hw) (hts _ xna_J10_copy) (hts _ xst_J10_copy) (hts _ xin_J10) hK hP hD hS q0 q1 0 0 (ty := .int) ha0 ha1 rfl rfl rfl (by decide +kernel) (by decide +kernel) (nI_pos hN) (by rw [hc, h0]; omega) (by rw [hc, h0]; omega) (fun _ _ => rfl) h1 h2 hdg (fun H1 locs1 hP1 hD1 hS1 => ?_)
  rw [hc, h0] at hP1 hD1
  exact kk H1 locs1 ls hP1 hD1 hS1 hl
theorem xobj (C : XK X l D t cc own rm nL) {ix a : Nat} (hw : (.methodLink own ix objectInit : Cond) ∈ XT) (h1 : 1 ≤ rm.frames) (h2 : (st.map fun v => v.category).sum + 12 ≤ rm.locals) (hdg : decode cc pc = .ok (.invokespecial ix, 3)) (kk : XW X k n ws lv (pc + 3) st) : XW X k n ws lv pc (.ref a :: st) := by
  obtain ⟨p, l1, e, R, s, m, args, below, meth, c, Q, D1, t1, A, nL1⟩ := X
  intro H locs ls hP hD hS hl
  obtain ⟨hx, hb, hml', hown, hts, hK, hXN, hA, rfl, rfl, rfl, rfl, rfl⟩ := C
  refine W.objInit hx hb hown (hts _ hw) (hts _ xim_O_init) (hts _ xco_O_init) rfl (by rw [hml']; exact hl.1) rfl hdg h1 (by show 2 * 0 + _ + 12 ≤ _; omega) ?_
  exact W.eq (g2 := F0 m (pc + 3) ls st) rfl (kk H locs ls hP hD hS hl)
theorem xputF (C : XK X l D t cc own rm nL) {Cn : String} {T : u_T} {N ci ix : Nat} {a : Nat} (q0 : Nat) {fs : List Value} {ws' : va_W} (he : ws[q0]? = some (a, .inr (ci, fs))) (hc : cls[ci]? = some (Cn, T, N)) (hin : ∀ w ∈ u_ws Cn T N, w ∈ XT) (ty0 : Nat → FieldType) (hty : ∀ k, k < N → parseFieldDescriptor (T k).2.2.1 = some (ty0 k)) (hnm : ∀ a, a < N → ∀ b, b < N → a ≠ b → (T a).2.1 ≠ (T b).2.1) (j : Nat) (hj : j < N) (hw : (.fieldLink own ix (T j).1 (T j).2.1 (T j).2.2.1 : Cond) ∈ XT) (hfin : (T j).2.2.2 = true) (hdecl : (T j).1 = own) (hini : XI X) {v : Value} (hn : narrow (ty0 j) v = v) (hfit : fits (ty0 j) v = true) (hl0 : j < fs.length) (hdg : decode cc pc = .ok (.putfield ix, 3)) (hws : ws.set q0 (a, .inr (ci, fs.set j v)) = ws') (kk : XW X k n ws' lv (pc + 3) st) : XW X k n ws lv pc (v :: .ref a :: st) := by
  obtain ⟨p, l1, e, R, s, m, args, below, meth, c, Q, D1, t1, A, nL1⟩ := X
  intro H locs ls hP hD hS hl
  obtain ⟨hx, hb, hml', hown, hts, hK, hXN, hA, rfl, rfl, rfl, rfl, rfl⟩ := C
  subst hws
  exact va_putF hx hb hts hin ty0 hty hnm hown hK hP hD hS q0 he hc j hj (hts _ hw) (fun _ h => h) hfin hini hdecl (hty j hj) hn hfit hl0 hdg (fun H1 locs1 hP1 hD1 hS1 => kk H1 locs1 ls hP1 hD1 hS1 hl)
theorem xnew (C : XK X l D t cc own rm nL) {Cn : String} {T : u_T} {N ci ix : Nat} {fs : List Value} (hc : cls[ci]? = some (Cn, T, N)) (hin : ∀ w ∈ u_ws Cn T N, w ∈ XT) (ty0 : Nat → FieldType) (hty : ∀ k, k < N → parseFieldDescriptor (T k).2.2.1 = some (ty0 k)) (hcl : (.classLink own ix Cn : Cond) ∈ XT) (hit : (.instantiable Cn N : Cond) ∈ XT) (hini : (.initialized Cn : Cond) ∈ XT) (hfs : ∀ j, j < N → defaultValue (ty0 j) = vp_V fs j) (h1 : k + 1 ≤ rm.cells) (h2 : n + N ≤ rm.slots) (hdg : decode cc pc = .ok (.new ix, 3)) (kk : ∀ q, XW X (k + 1) (n + N) (ws ++ [(q, .inr (ci, fs))]) lv (pc + 3) (.ref q :: st)) : XW X k n ws lv pc st := by
  obtain ⟨p, l1, e, R, s, m, args, below, meth, c, Q, D1, t1, A, nL1⟩ := X
  intro H locs ls hP hD hS hl
  obtain ⟨hx, hb, hml', hown, hts, hK, hXN, hA, rfl, rfl, rfl, rfl, rfl⟩ := C
  exact va_new hx hb hts hin ty0 hty hown (hts _ hcl) (hts _ hit) (hts _ hini) hK hP hD hS hA hc hfs h1 h2 hdg (fun q H1 hP1 hD1 hS1 => kk q H1 locs ls hP1 hD1 hS1 hl)
theorem xnewI (C : XK X l D t cc own rm nL) (N : Nat) (hN : N < 2 ^ 27) (h1 : k + 1 ≤ rm.cells) (h2 : n + N ≤ rm.slots) (hdg : decode cc pc = .ok (.newarray .int, 2)) (kk : ∀ q, XW X (k + 1) (n + N) (ws ++ [(q, .inl (t 0, N, .inl (fun _ => 0)))]) lv (pc + 2) (.ref q :: st)) : XW X k n ws lv pc (.int (nI N) :: st) := by
  obtain ⟨p, l1, e, R, s, m, args, below, meth, c, Q, D1, t1, A, nL1⟩ := X
  intro H locs ls hP hD hS hl
  obtain ⟨hx, hb, hml', hown, hts, hK, hXN, hA, rfl, rfl, rfl, rfl, rfl⟩ := C
  refine va_newa (atype := .int) (ty := .int) (a0 := (N, .inl (fun _ => 0))) (N' := N) hx hb (hts _ xac_int) rfl hK hP hD hS hA (fun _ => rfl) (nI_pos (by omega)) (nI_clamp (by omega)) (by show N * 4 ≤ _; omega) h1 h2 hdg (fun q cA H1 hK1 hP1 hD1 hS1 => ?_)
  have e : cA = t1 0 := by
    have a1 : s.vm.findClass ("[" ++ FieldType.int.toString) = some cA := (hK1.2 3 (cA, .int) rfl).2
    have a2 : s.vm.findClass ("[" ++ FieldType.int.toString) = some (t1 0) := (hK.2 0 (t1 0, .int) rfl).2
    exact Option.some.inj (a1.symm.trans a2)
  rw [e] at hP1 hD1
  exact kk q H1 locs ls hP1 hD1 hS1 hl
theorem xnewL (C : XK X l D t cc own rm nL) (N : Nat) (hN : N < 2 ^ 26) (h1 : k + 1 ≤ rm.cells) (h2 : n + N ≤ rm.slots) (hdg : decode cc pc = .ok (.newarray .long, 2)) (kk : ∀ q, XW X (k + 1) (n + N) (ws ++ [(q, .inl (t 1, N, .inr (.inl (fun _ => 0))))]) lv (pc + 2) (.ref q :: st)) : XW X k n ws lv pc (.int (nI N) :: st) := by
  obtain ⟨p, l1, e, R, s, m, args, below, meth, c, Q, D1, t1, A, nL1⟩ := X
  intro H locs ls hP hD hS hl
  obtain ⟨hx, hb, hml', hown, hts, hK, hXN, hA, rfl, rfl, rfl, rfl, rfl⟩ := C
  refine va_newa (atype := .long) (ty := .long) (a0 := (N, .inr (.inl (fun _ => 0)))) (N' := N) hx hb (hts _ xac_long) rfl hK hP hD hS hA (fun _ => rfl) (nI_pos (by omega)) (nI_clamp (by omega)) (by show N * 8 ≤ _; omega) h1 h2 hdg (fun q cA H1 hK1 hP1 hD1 hS1 => ?_)
  have e : cA = t1 1 := by
    have a1 : s.vm.findClass ("[" ++ FieldType.long.toString) = some cA := (hK1.2 3 (cA, .long) rfl).2
    have a2 : s.vm.findClass ("[" ++ FieldType.long.toString) = some (t1 1) := (hK.2 1 (t1 1, .long) rfl).2
    exact Option.some.inj (a1.symm.trans a2)
  rw [e] at hP1 hD1
  exact kk q H1 locs ls hP1 hD1 hS1 hl
theorem xlen (C : XK X l D t cc own rm nL) {a N : Nat} {f : Nat → Int32} (q0 : Nat) (he : ws[q0]? = some (a, .inl (t 0, N, .inl f))) (hdg : decode cc pc = .ok (.arraylength, 1)) (kk : XW X k n ws lv (pc + 1) (.int (nI N) :: st)) : XW X k n ws lv pc (.ref a :: st) := by
  obtain ⟨p, l1, e, R, s, m, args, below, meth, c, Q, D1, t1, A, nL1⟩ := X
  intro H locs ls hP hD hS hl
  obtain ⟨hx, hb, hml', hown, hts, hK, hXN, hA, rfl, rfl, rfl, rfl, rfl⟩ := C
  exact va_alen hx hb hK hP q0 0 he rfl rfl hdg (kk H locs ls hP hD hS hl)
end ROWS
