/-! The reference, 4: runs, meetings, draws (written by my program parts_m4.py). -/
theorem exH {K : Cfg} (hW : WFK K) : ∀ c f, sm f (kn K) < c → HIv K f → ∃ g, HIv K g ∧ feasP K g
  | 0, f, h, _ => absurd h (Nat.not_lt_zero _)
  | c + 1, f, h, hI => by
    rcases Classical.em (∃ k, k < km K ∧ ¬ lnkP K f k) with ⟨k, hk, hn⟩ | hno
    · have ha := hW.la hk; have hb := hW.lb hk
      by_cases e : f (kla K k) ≤ f (klb K k) + 1
      · have e2 : f (kla K k) + 1 < f (klb K k) := Nat.not_le.mp (fun q => hn ⟨e, q⟩)
        exact exH hW c _ (by have := sm_lt (n := kn K) hb e2; omega) (hI.up hW hb ha (adj_ba hk) (lk_ne hW hk).symm e2)
      · have e2 : f (klb K k) + 1 < f (kla K k) := by omega
        exact exH hW c _ (by have := sm_lt (n := kn K) ha e2; omega) (hI.up hW ha hb (adj_ab hk) (lk_ne hW hk) e2)
    · exact ⟨f, hI, fun k hk => Classical.byContradiction (fun q => hno ⟨k, hk, q⟩)⟩
theorem exL {K : Cfg} (hW : WFK K) : ∀ c f, sm (fun q => 5 - f q) (kn K) < c → LIv K f → ∃ g, LIv K g ∧ feasP K g
  | 0, f, h, _ => absurd h (Nat.not_lt_zero _)
  | c + 1, f, h, hI => by
    rcases Classical.em (∃ k, k < km K ∧ ¬ lnkP K f k) with ⟨k, hk, hn⟩ | hno
    · have ha := hW.la hk; have hb := hW.lb hk
      have h5a := hI.2.1 _ ha; have h5b := hI.2.1 _ hb
      by_cases e : f (kla K k) ≤ f (klb K k) + 1
      · have e2 : f (kla K k) + 1 < f (klb K k) := Nat.not_le.mp (fun q => hn ⟨e, q⟩)
        exact exL hW c _ (by have := sm_gt (n := kn K) (f := f) ha (x := f (klb K k) - 1) (by omega) (by omega); omega) (hI.up hW ha hb (adj_ab hk) (lk_ne hW hk) (by omega))
      · have e2 : f (klb K k) + 1 < f (kla K k) := by omega
        exact exL hW c _ (by have := sm_gt (n := kn K) (f := f) hb (x := f (kla K k) - 1) (by omega) (by omega); omega) (hI.up hW hb ha (adj_ba hk) (lk_ne hW hk).symm (by omega))
    · exact ⟨f, hI, fun k hk => Classical.byContradiction (fun q => hno ⟨k, hk, q⟩)⟩
theorem hS_feas {K : Cfg} (hW : WFK K) (hk : kk K = 1) : feasP K (hS K) := by
  obtain ⟨g, h1, h2⟩ := exH hW _ _ (Nat.lt_succ_self _) (HIv.start hW)
  exact feas_of hW h2 (hS_fix hW hk h2 h1)
theorem lS_feas {K : Cfg} (hW : WFK K) (hk : kk K = 1) : feasP K (lS K) := by
  obtain ⟨g, h1, h2⟩ := exL hW _ _ (Nat.lt_succ_self _) (LIv.start hW)
  exact feas_of hW h2 (lS_fix hW hk h2 h1)
theorem HE_hS {K : Cfg} (hW : WFK K) (hg : GoodP K) : HE K (hS K) := fun hk p hp h => (((good1 hW hk rfl (hS_feas hW)).mpr hg).2 p hp).resolve_left h
theorem lS_hS {K : Cfg} (hg : GoodP K) (hk : kk K = 1) {p : Nat} (hp : p < kn K) : lS K p ≤ hS K p := by
  have := hg.2
  unfold soundP at this
  rw [if_neg (by omega), if_pos hk] at this
  exact this p hp
theorem HE_lS {K : Cfg} (hW : WFK K) (hg : GoodP K) : HE K (lS K) := fun hk p hp h => by
  have h1 := HE_hS hW hg hk p hp h
  have h2 := lS_hS hg hk hp
  have h3 : l0 K p ≤ lS K p := by
    unfold lS
    rw [if_pos hk]
    exact rrL_ge K _ _ p
  have h4 : l0 K p = khd K p - 1 := by unfold l0; rw [if_pos ⟨hk, h⟩]
  omega
theorem HE_al {K : Cfg} {f : Nat → Nat} (h : alP K f) : HE K f := fun hk p hp hh => by
  have h1 := h.1 p hp
  unfold pwN at h1
  by_cases e : f p + 1 = khd K p
  · exact e
  · exact absurd (if_pos (Or.inr ⟨hk, hh, e⟩)) h1
theorem HE_inv {K : Cfg} {sd : Int32} {hd : Nat → Nat} {dk : Bool} {dw : Nat → Nat} {mt : Int32} (hI : INV (K, sd, hd, dk, dw, mt)) (hg : GoodP K) : HE K hd := HE_al (hI.2.2.1 hg)
theorem HE_tk {K : Cfg} (hW : WFK K) (hn : 0 < kn K) {f : Nat → Nat} (h : HE K f) (sd tt : Int32) : HE K (tkN K sd f tt) := fun hk p hp hh => by
  have h1 := h hk p hp hh
  unfold tkN
  by_cases e : p = plN K (mixI sd tt)
  · rw [← e, va_up_self, tk_held hW hp hk hh h1]; exact h1
  · rw [va_up_ne _ _ e]; exact h1
theorem HE_it {K : Cfg} (hW : WFK K) (hn : 0 < kn K) {f : Nat → Nat} {sd tt : Int32} (h : HE K f) : ∀ k, HE K (itN K sd f tt k)
  | 0 => h
  | k + 1 => HE_tk hW hn (HE_it hW hn h k) sd _
theorem runok6 {x y : Int32} (h1 : ¬ y < x) (h2 : (y.toInt64 - x.toInt64).toInt ≤ (20000 : Int64).toInt) : ¬ (y.toInt < x.toInt ∨ 20000 < y.toInt - x.toInt) := by
  have h3 := Int32.le_iff_toInt_le.mp (Int32.not_lt.mp h1)
  rw [sub64, l20000] at h2; omega
theorem runlen6 {x y : Int32} (h1 : ¬ y < x) (h2 : (y.toInt64 - x.toInt64).toInt ≤ (20000 : Int64).toInt) : ∃ d : Nat, (y.toInt - x.toInt).toNat = d ∧ d ≤ 20000 ∧ y.toInt = x.toInt + d := by
  have h3 := Int32.le_iff_toInt_le.mp (Int32.not_lt.mp h1)
  rw [sub64, l20000] at h2
  exact ⟨_, rfl, by omega, by omega⟩
theorem run_t {x y : Int32} {d i : Nat} (hd : y.toInt = x.toInt + d) (hi : i ≤ d) : (x + nI i).toInt = x.toInt + i := by
  have h1 := x.toInt_lt
  have h2 := x.le_toInt
  have h3 := y.toInt_lt
  have h4 := y.le_toInt
  by_cases e : i < 2 ^ 31
  · rw [Int32.toInt_add, nI_toInt e]
    apply Int.bmod_eq_of_le <;> omega
  · have h5 : (x + nI i) = Int32.ofInt (x.toInt + i) := by
      show x + Int32.ofNat i = _
      rw [Int32.ofInt_add, Int32.ofInt_toInt]
      rfl
    rw [h5, Int32.toInt_ofInt_of_le (by omega) (by omega)]
theorem run_ge {x y : Int32} {d i : Nat} (hd : y.toInt = x.toInt + d) (hi : i ≤ d) (h : y ≤ x + nI i) : i = d := by
  have h1 := Int32.le_iff_toInt_le.mp h
  rw [run_t hd hi] at h1
  omega
theorem run_nge {x y : Int32} {d i : Nat} (hd : y.toInt = x.toInt + d) (hi : i ≤ d) (h : ¬ y ≤ x + nI i) : i < d := by
  have h1 := Int32.lt_iff_toInt_lt.mp (Int32.not_le.mp h)
  rw [run_t hd hi] at h1
  omega
theorem un_e {f g : Nat → Nat} {n : Nat} (h : cn (fun p => f p ≠ g p) n = 0) : ∀ p, p < n → f p = g p := fun p hp => Classical.byContradiction (cn_zero.mp h p hp)
theorem un_n {f g : Nat → Nat} {n : Nat} (h : ¬ cn (fun p => f p ≠ g p) n = 0) : ¬ ∀ p, p < n → f p = g p := fun q => h (cn_zero.mpr (fun p hp z => z (q p hp)))
/-- the reference's note of the tick at which both first were the same; 1: they weren't -/
noncomputable def fmN (K : Cfg) (sd : Int32) (B i : Nat) : Int32 := ci (metP K sd B i) (mtN K sd B i) 1
theorem fm_0t {K : Cfg} {sd : Int32} {B : Nat} (h : ∀ p, p < kn K → hS K p = lS K p) : nI 0 = fmN K sd B 0 := by
  unfold fmN
  rw [ci_t ⟨0, Nat.le_refl _, h⟩]
  exact nI_0
theorem fm_0f {K : Cfg} {sd : Int32} {B : Nat} (h : ¬ ∀ p, p < kn K → hS K p = lS K p) : nI 1 = fmN K sd B 0 := by
  unfold fmN
  rw [ci_f]
  · exact nI_one
  · intro ⟨x, h1, h2⟩
    obtain rfl : x = 0 := by omega
    exact h h2
theorem mt_ne1 {K : Cfg} {sd : Int32} {B : Nat} (hb : B ≤ 4096) : ∀ {i : Nat}, i ≤ B → mtN K sd B i ≠ 1
  | 0, _ => by show (0 : Int32) ≠ 1; decide
  | i + 1, hi => by
    show (if _ then _ else _) ≠ _
    split
    · exact mt_ne1 hb (by omega)
    · split
      · intro q
        have h1 := congrArg Int32.toInt q
        rw [t_int hb (show i ≤ B by omega), pk_sub_toInt (by omega) (by omega)] at h1
        have h2 : (1 : Int32).toInt = 1 := by decide
        omega
      · exact mt_ne1 hb (by omega)
theorem fm_1 {K : Cfg} {sd : Int32} {B i : Nat} (hb : B ≤ 4096) (hi : i ≤ B) (h : fmN K sd B i = 1) : ¬ metP K sd B i := fun q => by
  unfold fmN at h
  rw [ci_t q] at h
  exact mt_ne1 hb hi h
theorem fmN_met {K : Cfg} {sd : Int32} {B : Nat} (h : ∀ p, p < kn K → itN K sd (hS K) (-nI B) B p = itN K sd (lS K) (-nI B) B p) : fmN K sd B B = mtN K sd B B := by
  unfold fmN
  rw [ci_t ⟨B, Nat.le_refl _, h⟩]
theorem fm_keep {K : Cfg} {sd : Int32} {B i : Nat} (h : ¬ fmN K sd B i = 1) : fmN K sd B (i + 1) = fmN K sd B i := by
  have hm : metP K sd B i := Classical.byContradiction (fun q => h (by unfold fmN; rw [ci_f q]))
  have hm2 : metP K sd B (i + 1) := by obtain ⟨x, h1, h2⟩ := hm; exact ⟨x, by omega, h2⟩
  unfold fmN
  rw [ci_t hm, ci_t hm2]
  exact mtN_keep hm
theorem fm_no {K : Cfg} {sd : Int32} {B i : Nat} (hb : B ≤ 4096) (hi : i ≤ B) (h : fmN K sd B i = 1) (h2 : ¬ ∀ p, p < kn K → itN K sd (hS K) (-nI B) (i + 1) p = itN K sd (lS K) (-nI B) (i + 1) p) : fmN K sd B (i + 1) = fmN K sd B i := by
  have hm := fm_1 hb hi h
  rw [h]
  unfold fmN
  rw [ci_f]
  intro ⟨x, h3, h4⟩
  by_cases e : x = i + 1
  · subst e; exact h2 h4
  · exact hm ⟨x, by omega, h4⟩
theorem fm_now {K : Cfg} {sd : Int32} {B i : Nat} (hb : B ≤ 4096) (hi : i ≤ B) (h : fmN K sd B i = 1) (h2 : ∀ p, p < kn K → itN K sd (hS K) (-nI B) (i + 1) p = itN K sd (lS K) (-nI B) (i + 1) p) : fmN K sd B (i + 1) = -nI B + nI i := by
  unfold fmN
  rw [ci_t ⟨i + 1, Nat.le_refl _, h2⟩]
  exact mtN_now (fm_1 hb hi h) h2
theorem tk_same {K : Cfg} {sd tt : Int32} {f : Nat → Nat} (h : ¬ chgP K sd f tt) : tkN K sd f tt = f := by
  have h1 : chN K f (plN K (mixI sd tt)) (lotN (mixI sd tt)) = f (plN K (mixI sd tt)) := Classical.byContradiction h
  funext q
  unfold tkN
  rw [h1]
  by_cases c : q = plN K (mixI sd tt)
  · rw [c, va_up_self]
  · rw [va_up_ne _ _ c]
theorem fm_still {K : Cfg} {sd : Int32} {B i : Nat} (hb : B ≤ 4096) (hi : i ≤ B) (h : fmN K sd B i = 1) (h1 : ¬ chgP K sd (itN K sd (hS K) (-nI B) i) (-nI B + nI i)) (h2 : ¬ chgP K sd (itN K sd (lS K) (-nI B) i) (-nI B + nI i)) : fmN K sd B (i + 1) = fmN K sd B i := by
  refine fm_no hb hi h (fun q => fm_1 hb hi h ⟨i, Nat.le_refl _, fun p hp => ?_⟩)
  have h3 := q p hp
  have h4 : itN K sd (hS K) (-nI B) (i + 1) = itN K sd (hS K) (-nI B) i := tk_same h1
  have h5 : itN K sd (lS K) (-nI B) (i + 1) = itN K sd (lS K) (-nI B) i := tk_same h2
  rw [h4, h5] at h3
  exact h3
theorem RM.draw {K : Cfg} {sd : Int32} {hd : Nat → Nat} {dk : Bool} {dw : Nat → Nat} {mt : Int32} {IB : Nat → Int32} {FB FC : Nat → Nat → Int32} {dw' : Nat → Nat} {mt' : Int32} (h : RM (K, sd, hd, dk, dw, mt) IB FB) (h7 : IB 7 = mt') (hL : RA (kn K) (FB 8) dw') (hF : ∀ q, q ≠ 10 → FC q = FB q) (hc : ∀ p, p < kn K → FC 10 p = FB 8 p) : RM (K, sd, hd, true, dw', mt') (va_up (va_up IB 9 (nI 1)) 8 (va_up IB 9 (nI 1) 7)) FC := by
  obtain ⟨h1, h2, h3, h4, h5⟩ := h
  exact ⟨(h1.of (fun q hq => by rw [va_up_ne _ _ (by omega), va_up_ne _ _ (by omega)]) (fun q hq => hF q (by omega))), h2, by rw [hF 12 (by decide)]; exact h3, rfl, fun _ => ⟨fun p hp => by rw [hc p hp]; exact hL p hp, by rw [va_up_self, va_up_ne _ _ (by decide)]; exact h7⟩⟩
theorem RM.tally {K : Cfg} {sd : Int32} {hd : Nat → Nat} {dk : Bool} {dw : Nat → Nat} {mt : Int32} {I IZ : Nat → Int32} {FA FD : Nat → Nat → Int32} (h : RM (K, sd, hd, dk, dw, mt) I FA) (hI : ∀ q, q ≠ 7 → IZ q = I q) (hF : ∀ q, q ≠ 8 → q ≠ 9 → FD q = FA q) (_ : IZ 10 = sd) : RM (K, sd, hd, dk, dw, mt) IZ FD := h.of hI (fun q h1 h2 _ => hF q h1 h2)
/-- a tally under way: whether all met, and the sum -/
def tlS (K : Cfg) (y : Int32) (p i mf c : Nat) : Prop := mf ≤ 1 ∧ c ≤ 5 * i ∧ (mf ≠ 0 → tlN K y p i = some c) ∧ (mf = 0 → tlN K y p i = none)
theorem tlS_0 {K : Cfg} {y : Int32} {p : Nat} : tlS K y p 0 1 0 := ⟨by omega, by omega, fun _ => rfl, fun h => by omega⟩
theorem tlS_go {K : Cfg} {y : Int32} {p i mf c e : Nat} (h : tlS K y p i mf c) (h1 : ¬ mf = 0) (hf : farN K (y + nI i) = some e) (h5 : itN K (y + nI i) (lS K) (-nI (2 ^ e)) (2 ^ e) p ≤ 5) : tlS K y p (i + 1) 1 (c + itN K (y + nI i) (lS K) (-nI (2 ^ e)) (2 ^ e) p) := ⟨by omega, by have := h.2.1; omega, fun _ => tlN_go (h.2.2.1 h1) hf, fun q => by omega⟩
theorem tlS_no {K : Cfg} {y : Int32} {p i mf c g : Nat} (h : tlS K y p i mf c) (h1 : ¬ mf = 0) (hf : farN K (y + nI i) = none) (h5 : g ≤ 5) : tlS K y p (i + 1) 0 (c + g) := ⟨by omega, by have := h.2.1; omega, fun q => absurd rfl q, fun _ => tlN_fail (h.2.2.1 h1) hf⟩
theorem tlS_none {K : Cfg} {y : Int32} {p i mf c n : Nat} (h : tlS K y p i mf c) (h1 : mf = 0) (hi : i ≤ n) : tlN K y p n = none := tlN_none (h.2.2.2 h1) hi
theorem tlS_some {K : Cfg} {y : Int32} {p i mf c n : Nat} (h : tlS K y p i mf c) (h1 : ¬ mf = 0) (hi : mf = 0 ∨ i = n) : tlN K y p n = some c := by
  rcases hi with q | q
  · exact absurd q h1
  · subst q; exact h.2.2.1 h1
theorem dX6_run_0 : decode cX6_run 0 = .ok (.iload_n 2, 1) := by decide +kernel
theorem dX6_run_1 : decode cX6_run 1 = .ok (.iload_n 1, 1) := by decide +kernel
theorem dX6_run_2 : decode cX6_run 2 = .ok (.if_icmp .lt 15, 3) := by decide +kernel
theorem dX6_run_5 : decode cX6_run 5 = .ok (.iload_n 2, 1) := by decide +kernel
theorem dX6_run_6 : decode cX6_run 6 = .ok (.i2l, 1) := by decide +kernel
theorem dX6_run_7 : decode cX6_run 7 = .ok (.iload_n 1, 1) := by decide +kernel
theorem dX6_run_8 : decode cX6_run 8 = .ok (.i2l, 1) := by decide +kernel
theorem dX6_run_9 : decode cX6_run 9 = .ok (.lsub, 1) := by decide +kernel
theorem dX6_run_10 : decode cX6_run 10 = .ok (.ldc2_w 122, 3) := by decide +kernel
theorem dX6_run_13 : decode cX6_run 13 = .ok (.lcmp, 1) := by decide +kernel
theorem dX6_run_14 : decode cX6_run 14 = .ok (.ifCond .le 6, 3) := by decide +kernel
theorem dX6_run_17 : decode cX6_run 17 = .ok (.bipush (-2), 2) := by decide +kernel
theorem dX6_run_19 : decode cX6_run 19 = .ok (.ireturn, 1) := by decide +kernel
theorem dX6_run_20 : decode cX6_run 20 = .ok (.aload_n 0, 1) := by decide +kernel
theorem dX6_run_21 : decode cX6_run 21 = .ok (.invokevirtual 64, 3) := by decide +kernel
theorem dX6_run_24 : decode cX6_run 24 = .ok (.ifCond .ne 6, 3) := by decide +kernel
theorem dX6_run_27 : decode cX6_run 27 = .ok (.bipush (-5), 2) := by decide +kernel
theorem dX6_run_29 : decode cX6_run 29 = .ok (.ireturn, 1) := by decide +kernel
theorem dX6_run_30 : decode cX6_run 30 = .ok (.iconst 0, 1) := by decide +kernel
theorem dX6_run_31 : decode cX6_run 31 = .ok (.istore_n 3, 1) := by decide +kernel
theorem dX6_run_32 : decode cX6_run 32 = .ok (.iload_n 1, 1) := by decide +kernel
theorem dX6_run_33 : decode cX6_run 33 = .ok (.istore 4, 2) := by decide +kernel
theorem dX6_run_35 : decode cX6_run 35 = .ok (.iload 4, 2) := by decide +kernel
theorem dX6_run_37 : decode cX6_run 37 = .ok (.iload_n 2, 1) := by decide +kernel
theorem dX6_run_38 : decode cX6_run 38 = .ok (.if_icmp .ge 30, 3) := by decide +kernel
theorem dX6_run_41 : decode cX6_run 41 = .ok (.iload_n 3, 1) := by decide +kernel
theorem dX6_run_42 : decode cX6_run 42 = .ok (.aload_n 0, 1) := by decide +kernel
theorem dX6_run_43 : decode cX6_run 43 = .ok (.aload_n 0, 1) := by decide +kernel
theorem dX6_run_44 : decode cX6_run 44 = .ok (.getfield 38, 3) := by decide +kernel
theorem dX6_run_47 : decode cX6_run 47 = .ok (.iload 4, 2) := by decide +kernel
theorem dX6_run_49 : decode cX6_run 49 = .ok (.invokevirtual 124, 3) := by decide +kernel
theorem dX6_run_52 : decode cX6_run 52 = .ok (.ifCond .eq 7, 3) := by decide +kernel
theorem dX6_run_55 : decode cX6_run 55 = .ok (.iconst 1, 1) := by decide +kernel
theorem dX6_run_56 : decode cX6_run 56 = .ok (.goto 4, 3) := by decide +kernel
theorem dX6_run_59 : decode cX6_run 59 = .ok (.iconst 0, 1) := by decide +kernel
theorem dX6_run_60 : decode cX6_run 60 = .ok (.iadd, 1) := by decide +kernel
theorem dX6_run_61 : decode cX6_run 61 = .ok (.istore_n 3, 1) := by decide +kernel
theorem dX6_run_62 : decode cX6_run 62 = .ok (.iinc 4 1, 3) := by decide +kernel
theorem dX6_run_65 : decode cX6_run 65 = .ok (.goto (-30), 3) := by decide +kernel
theorem dX6_run_68 : decode cX6_run 68 = .ok (.iload_n 3, 1) := by decide +kernel
theorem dX6_run_69 : decode cX6_run 69 = .ok (.ireturn, 1) := by decide +kernel
def rX6_run : Room := { frames := 3, cells := 0, slots := 0, locals := 85 }
theorem yk_X6_run : YK yX6_run cX6_run 5 (some .int) 2 := ⟨xim_X6_run, xse_X6_run, xin_X6, xco_X6_run, by decide +kernel⟩
set_option maxRecDepth 4000 in
theorem c_X6_run {l : Launch} {D : va_G} {t : Nat → ClassId} {b : Nat → Nat} {I : Nat → Int32} {F : Nat → Nat → Int32} {K : Cfg} {sd : Int32} {hd : Nat → Nat} {dk : Bool} {dw : Nat → Nat} {mt : Int32} (hI : INV (K, sd, hd, dk, dw, mt)) (hX : RM (K, sd, hd, dk, dw, mt) I F) (x y : Int32) : CT l D t yX6_run cX6_run 5 (some .int) rX6_run 0 0 [.ref (b 0), .int x, .int y] (WM b t I F) (MO b t (opRun (K, sd, hd, dk, dw, mt) x y)) := by
  refine CT.of (by decide +kernel) (by simp [lg_sl, Value.category]) (fun X C hR => ?_)
  refine xlocals (lv' := [(0, .ref (b 0)), (1, .int x), (2, .int y)]) rfl ?_
  obtain ⟨hK, hsd, hHd, hdk, hdr⟩ := id hX
  have hW : WFK K := hI.1
  have hrg := hI.2.1
  have fn24 := hW.n24; have fm60 := hW.m60; have fk2 := hW.k2; have fu1 := hW.u1; have fu9 := hW.u9; have fv1 := hW.v1; have fv9 := hW.v9
  refine xiload_n C 2 rfl dX6_run_0 ?_
  refine xiload_n C 1 rfl dX6_run_1 ?_
  refine xicmp_lt C 17 dX6_run_2 (by decide) (fun h2 => ?_) (fun h2 => ?_)
  ·
    refine xbipush (v := -2) C dX6_run_17 (by decide) ?_
    exact xret C hR (rfl) dX6_run_19 (MO.mk (by rw [opRun, ci_t (Or.inl (Int32.lt_iff_toInt_lt.mp h2))]) hX)
  ·
    refine xiload_n C 2 rfl dX6_run_5 ?_
    refine xi2l C dX6_run_6 ?_
    refine xiload_n C 1 rfl dX6_run_7 ?_
    refine xi2l C dX6_run_8 ?_
    refine xlsub C dX6_run_9 ?_
    refine xldc2 C dX6_run_10 xcn_X6_122 ?_
    refine xlcmpZ_le C 20 dX6_run_13 dX6_run_14 (by decide) (fun h13 => ?_) (fun h13 => ?_)
    ·
      refine xaload_n C 0 rfl dX6_run_20 ?_
      refine xcVE C (c_X6_isGood hK hW) yk_X6_isGood 0 rfl rfl xml_X6_64 ⟨⟨Nat.le_of_ble_eq_true rfl, Nat.le_of_ble_eq_true rfl⟩, ⟨rfl, rfl⟩, ⟨Nat.zero_le _, Nat.zero_le _⟩⟩ rfl (Nat.le_of_ble_eq_true rfl) dX6_run_21 (fun vE wE hE => ?_)
      obtain ⟨rfl, FA, rfl, hXA⟩ := hE
      have hKA : CFG K I FA := hK.of (fun _ _ => rfl) (fun q hq => hXA q (by omega))
      refine xif_neN C 30 dX6_run_24 (by decide) (bn_lt _) (fun h24 => ?_) (fun h24 => ?_)
      ·
        have hn : 0 < kn K := (bn_1 h24).1
        obtain ⟨d, hd0, hd2, hd3⟩ := runlen6 h2 h13
        refine xiconst (v := nI 0) C dX6_run_30 (by decide) ?_
        refine xistore_n (lv' := [(3, .int (nI 0)), (0, .ref (b 0)), (1, .int x), (2, .int y)]) C dX6_run_31 (by decide) rfl ?_
        refine xiload_n C 2 rfl dX6_run_32 ?_
        refine xistore (lv' := [(4, .int x), (3, .int (nI 0)), (0, .ref (b 0)), (1, .int x), (2, .int y)]) C dX6_run_33 (by decide) rfl ?_
        refine xlocals (lv' := [(4, .int (x + nI 0)), (3, .int (nI 0)), (0, .ref (b 0)), (1, .int x), (2, .int y)]) (by rw [nI_0]; simp) ?_
        have LP35 : ∀ (fu35 : Nat) (i : Nat) (FB : Nat → Nat → Int32) (hi : i ≤ d) (hXB : ∀ q, q ≠ 12 → FB q = FA q) (hHB : RA (kn K) (FB 12) (itN K sd hd x  i)), d - i < fu35 → XW X 0 0 (WM b t I FB) [(0, .ref (b 0)), (1, .int x), (2, .int y), (3, .int (nI (rcN K sd hd x i))), (4, .int (x + nI i))] 35 [] := by
          intro fu35
          induction fu35 with
          | zero => intro i FB hi hXB hHB hm35; exact absurd hm35 (Nat.not_lt_zero _)
          | succ fu35 ih35 =>
            intro i FB hi hXB hHB hm35
            have hKB : CFG K I FB := hKA.of (fun _ _ => rfl) (fun q hq => hXB q (by omega))
            have hbc := bn_le (chgP K sd (itN K sd hd x i) (x + nI i))
            refine xiload C 4 rfl dX6_run_35 ?_
            refine xiload_n C 2 rfl dX6_run_37 ?_
            refine xicmp_ge C 68 dX6_run_38 (by decide) (fun h38 => ?_) (fun h38 => ?_)
            ·
              have h38 := run_ge hd3 hi h38
              subst h38
              refine xiload_n C 3 rfl dX6_run_68 ?_
              exact xret C hR (rfl) dX6_run_69 (MO.mk (by rw [opRun, ci_f (runok6 h2 h13), ci_f (fun q => q (bn_1 h24)), hd0]) ((hX.of (fun _ _ => rfl) (fun q h1 h2 h3 => hXA q h3)).hnd hXB hHB))
            ·
              have h38 := run_nge hd3 hi h38
              refine xiload_n C 3 rfl dX6_run_41 ?_
              refine xaload_n C 0 rfl dX6_run_42 ?_
              refine xaload_n C 0 rfl dX6_run_43 ?_
              refine gX6_38 C dX6_run_44 ?_
              refine xiload C 4 rfl dX6_run_47 ?_
              refine xcVE C (c_X6_tick1 hKB hW 12 (by decide) (by decide) hHB hn sd (x + nI i) hsd (HE_it hW hn (fun hk p hp h => HE_inv hI (bn_1 h24) hk p hp h) i)) yk_X6_tick1 0 rfl rfl xml_X6_124 ⟨⟨Nat.le_of_ble_eq_true rfl, Nat.le_of_ble_eq_true rfl⟩, ⟨rfl, rfl⟩, ⟨Nat.zero_le _, Nat.zero_le _⟩⟩ rfl (Nat.le_of_ble_eq_true rfl) dX6_run_49 (fun vE wE hE => ?_)
              obtain ⟨rfl, FC, rfl, hFC, hHC⟩ := hE
              refine xif_eqN C 59 dX6_run_52 (by decide) (bn_lt _) (fun h52 => ?_) (fun h52 => ?_)
              ·
                refine xiconst (v := nI 0) C dX6_run_59 (by decide) ?_
                refine xiaddN C dX6_run_60 ?_
                refine xistore_n (lv' := [(3, .int (nI ((rcN K sd hd x i) + 0))), (0, .ref (b 0)), (1, .int x), (2, .int y), (4, .int (x + nI i))]) C dX6_run_61 (by decide) rfl ?_
                refine xlocals (lv' := [(3, .int (nI (rcN K sd hd x (i + 1)))), (0, .ref (b 0)), (1, .int x), (2, .int y), (4, .int (x + nI i))]) (by rw [show rcN K sd hd x (i + 1) = rcN K sd hd x i + bn (chgP K sd (itN K sd hd x i) (x + nI i)) from rfl, h52, Nat.add_zero]) ?_
                refine xiinc (v := x + nI i + 1) (lv' := [(4, .int (x + nI i + 1)), (3, .int (nI (rcN K sd hd x (i + 1)))), (0, .ref (b 0)), (1, .int x), (2, .int y)]) C 4 rfl dX6_run_62 rfl (by decide) rfl ?_
                refine xlocals (lv' := [(4, .int (x + nI (i + 1))), (3, .int (nI (rcN K sd hd x (i + 1)))), (0, .ref (b 0)), (1, .int x), (2, .int y)]) (by rw [nI_succ, Int32.add_assoc]) ?_
                refine xgoto C 35 dX6_run_65 (by decide) ?_
                refine xsub [2, 3, 4, 1, 0] rfl ?_
                exact ih35 (i + 1) FC (by omega) (fun q hq => (hFC q hq).trans (hXB q hq)) hHC (by omega)
              ·
                refine xiconst (v := nI 1) C dX6_run_55 (by decide) ?_
                refine xgoto C 60 dX6_run_56 (by decide) ?_
                refine xiaddN C dX6_run_60 ?_
                refine xistore_n (lv' := [(3, .int (nI ((rcN K sd hd x i) + 1))), (0, .ref (b 0)), (1, .int x), (2, .int y), (4, .int (x + nI i))]) C dX6_run_61 (by decide) rfl ?_
                refine xlocals (lv' := [(3, .int (nI (rcN K sd hd x (i + 1)))), (0, .ref (b 0)), (1, .int x), (2, .int y), (4, .int (x + nI i))]) (by rw [show rcN K sd hd x (i + 1) = rcN K sd hd x i + bn (chgP K sd (itN K sd hd x i) (x + nI i)) from rfl, bn_t (bn_1 h52)]) ?_
                refine xiinc (v := x + nI i + 1) (lv' := [(4, .int (x + nI i + 1)), (3, .int (nI (rcN K sd hd x (i + 1)))), (0, .ref (b 0)), (1, .int x), (2, .int y)]) C 4 rfl dX6_run_62 rfl (by decide) rfl ?_
                refine xlocals (lv' := [(4, .int (x + nI (i + 1))), (3, .int (nI (rcN K sd hd x (i + 1)))), (0, .ref (b 0)), (1, .int x), (2, .int y)]) (by rw [nI_succ, Int32.add_assoc]) ?_
                refine xgoto C 35 dX6_run_65 (by decide) ?_
                refine xsub [2, 3, 4, 1, 0] rfl ?_
                exact ih35 (i + 1) FC (by omega) (fun q hq => (hFC q hq).trans (hXB q hq)) hHC (by omega)
        refine xsub [2, 3, 4, 1, 0] rfl ?_
        exact LP35 _ 0 FA (Nat.zero_le _) (fun _ _ => rfl) (fun p hp => by rw [hXA 12 (by decide)]; exact hHd p hp) (Nat.lt_succ_self _)
      ·
        refine xbipush (v := -5) C dX6_run_27 (by decide) ?_
        exact xret C hR (rfl) dX6_run_29 (MO.mk (by rw [opRun, ci_f (runok6 h2 h13), ci_t (bn_0 h24)]) (hX.of (fun _ _ => rfl) (fun q h1 h2 h3 => hXA q h3)))
    ·
      refine xbipush (v := -2) C dX6_run_17 (by decide) ?_
      exact xret C hR (rfl) dX6_run_19 (MO.mk (by rw [opRun, ci_t (Or.inr (rungt h13))]) hX)
theorem dX6_unlike_0 : decode cX6_unlike 0 = .ok (.iconst 0, 1) := by decide +kernel
theorem dX6_unlike_1 : decode cX6_unlike 1 = .ok (.istore_n 1, 1) := by decide +kernel
theorem dX6_unlike_2 : decode cX6_unlike 2 = .ok (.iconst 0, 1) := by decide +kernel
theorem dX6_unlike_3 : decode cX6_unlike 3 = .ok (.istore_n 2, 1) := by decide +kernel
theorem dX6_unlike_4 : decode cX6_unlike 4 = .ok (.iload_n 2, 1) := by decide +kernel
theorem dX6_unlike_5 : decode cX6_unlike 5 = .ok (.aload_n 0, 1) := by decide +kernel
theorem dX6_unlike_6 : decode cX6_unlike 6 = .ok (.getfield 53, 3) := by decide +kernel
theorem dX6_unlike_9 : decode cX6_unlike 9 = .ok (.if_icmp .ge 32, 3) := by decide +kernel
theorem dX6_unlike_12 : decode cX6_unlike 12 = .ok (.iload_n 1, 1) := by decide +kernel
theorem dX6_unlike_13 : decode cX6_unlike 13 = .ok (.aload_n 0, 1) := by decide +kernel
theorem dX6_unlike_14 : decode cX6_unlike 14 = .ok (.getfield 41, 3) := by decide +kernel
theorem dX6_unlike_17 : decode cX6_unlike 17 = .ok (.iload_n 2, 1) := by decide +kernel
theorem dX6_unlike_18 : decode cX6_unlike 18 = .ok (.iaload, 1) := by decide +kernel
theorem dX6_unlike_19 : decode cX6_unlike 19 = .ok (.aload_n 0, 1) := by decide +kernel
theorem dX6_unlike_20 : decode cX6_unlike 20 = .ok (.getfield 44, 3) := by decide +kernel
theorem dX6_unlike_23 : decode cX6_unlike 23 = .ok (.iload_n 2, 1) := by decide +kernel
theorem dX6_unlike_24 : decode cX6_unlike 24 = .ok (.iaload, 1) := by decide +kernel
theorem dX6_unlike_25 : decode cX6_unlike 25 = .ok (.if_icmp .eq 7, 3) := by decide +kernel
theorem dX6_unlike_28 : decode cX6_unlike 28 = .ok (.iconst 1, 1) := by decide +kernel
theorem dX6_unlike_29 : decode cX6_unlike 29 = .ok (.goto 4, 3) := by decide +kernel
theorem dX6_unlike_32 : decode cX6_unlike 32 = .ok (.iconst 0, 1) := by decide +kernel
theorem dX6_unlike_33 : decode cX6_unlike 33 = .ok (.iadd, 1) := by decide +kernel
theorem dX6_unlike_34 : decode cX6_unlike 34 = .ok (.istore_n 1, 1) := by decide +kernel
theorem dX6_unlike_35 : decode cX6_unlike 35 = .ok (.iinc 2 1, 3) := by decide +kernel
theorem dX6_unlike_38 : decode cX6_unlike 38 = .ok (.goto (-34), 3) := by decide +kernel
theorem dX6_unlike_41 : decode cX6_unlike 41 = .ok (.iload_n 1, 1) := by decide +kernel
theorem dX6_unlike_42 : decode cX6_unlike 42 = .ok (.ireturn, 1) := by decide +kernel
def rX6_unlike : Room := { frames := 0, cells := 0, slots := 0, locals := 0 }
theorem yk_X6_unlike : YK yX6_unlike cX6_unlike 3 (some .int) 0 := ⟨xim_X6_unlike, xse_X6_unlike, xin_X6, xco_X6_unlike, by decide +kernel⟩
set_option maxRecDepth 4000 in
theorem c_X6_unlike {l : Launch} {D : va_G} {t : Nat → ClassId} {b : Nat → Nat} {I : Nat → Int32} {F : Nat → Nat → Int32} {K : Cfg} (hK : CFG K I F) (hW : WFK K) {hi lo : Nat → Nat} (hH : RA (kn K) (F 8) hi) (hL : RA (kn K) (F 9) lo) : CT l D t yX6_unlike cX6_unlike 3 (some .int) rX6_unlike 0 0 [.ref (b 0)] (WM b t I F) (RP (.int (nI (cn (fun p => hi p ≠ lo p) (kn K)))) (WM b t I F)) := by
  refine CT.of (by decide +kernel) (by simp [lg_sl, Value.category]) (fun X C hR => ?_)
  refine xlocals (lv' := [(0, .ref (b 0))]) rfl ?_
  have fn24 := hW.n24; have fm60 := hW.m60; have fk2 := hW.k2; have fu1 := hW.u1; have fu9 := hW.u9; have fv1 := hW.v1; have fv9 := hW.v9
  refine xiconst (v := nI 0) C dX6_unlike_0 (by decide) ?_
  refine xistore_n (lv' := [(1, .int (nI 0)), (0, .ref (b 0))]) C dX6_unlike_1 (by decide) rfl ?_
  refine xiconst (v := nI 0) C dX6_unlike_2 (by decide) ?_
  refine xistore_n (lv' := [(2, .int (nI 0)), (1, .int (nI 0)), (0, .ref (b 0))]) C dX6_unlike_3 (by decide) rfl ?_
  have LP4 : ∀ (fu4 : Nat) (i : Nat) (hi1 : i ≤ kn K), kn K - i < fu4 → XW X 0 0 (WM b t I F) [(0, .ref (b 0)), (1, .int (nI (cn (fun p => hi p ≠ lo p) i))), (2, .int (nI i))] 4 [] := by
    intro fu4
    induction fu4 with
    | zero => intro i hi1 hm4; exact absurd hm4 (Nat.not_lt_zero _)
    | succ fu4 ih4 =>
      intro i hi1 hm4
      refine xiload_n C 2 rfl dX6_unlike_4 ?_
      refine xaload_n C 0 rfl dX6_unlike_5 ?_
      refine gX6_53K C hK dX6_unlike_6 ?_
      refine xicmp_geN C 41 dX6_unlike_9 (by decide) (by omega) (by omega) (fun h9 => ?_) (fun h9 => ?_)
      ·
        refine xiload_n C 1 rfl dX6_unlike_41 ?_
        exact xret C hR (rfl) dX6_unlike_42 (RPn (by (have e : i = kn K := (by omega)); subst e; rfl))
      ·
        refine xiload_n C 1 rfl dX6_unlike_12 ?_
        refine xaload_n C 0 rfl dX6_unlike_13 ?_
        refine gX6_41 C dX6_unlike_14 ?_
        refine xiload_n C 2 rfl dX6_unlike_17 ?_
        refine ma_st C hW 8 (by decide) (by decide) hH i (by omega) dX6_unlike_18 ?_
        have fb18 := (hH i (by omega)).2
        refine xaload_n C 0 rfl dX6_unlike_19 ?_
        refine gX6_44 C dX6_unlike_20 ?_
        refine xiload_n C 2 rfl dX6_unlike_23 ?_
        refine ma_st C hW 9 (by decide) (by decide) hL i (by omega) dX6_unlike_24 ?_
        have fb24 := (hL i (by omega)).2
        refine xicmp_eqN C 32 dX6_unlike_25 (by decide) (by omega) (by omega) (fun h25 => ?_) (fun h25 => ?_)
        ·
          refine xiconst (v := nI 0) C dX6_unlike_32 (by decide) ?_
          refine xiaddN C dX6_unlike_33 ?_
          refine xistore_n (lv' := [(1, .int (nI ((cn (fun p => hi p ≠ lo p) i) + 0))), (0, .ref (b 0)), (2, .int (nI i))]) C dX6_unlike_34 (by decide) rfl ?_
          refine xlocals (lv' := [(1, .int (nI (cn (fun p => hi p ≠ lo p) (i + 1)))), (0, .ref (b 0)), (2, .int (nI i))]) (by rw [show cn (fun p => hi p ≠ lo p) (i + 1) = cn (fun p => hi p ≠ lo p) i + bn (hi i ≠ lo i) from rfl, bn_f (fun q => q h25), Nat.add_zero]) ?_
          refine xiincN (lv' := [(2, .int (nI (i + 1))), (1, .int (nI (cn (fun p => hi p ≠ lo p) (i + 1)))), (0, .ref (b 0))]) C 2 rfl dX6_unlike_35 (by decide) rfl ?_
          refine xgoto C 4 dX6_unlike_38 (by decide) ?_
          refine xsub [2, 1, 0] rfl ?_
          exact ih4 (i + 1) (by omega) (by omega)
        ·
          refine xiconst (v := nI 1) C dX6_unlike_28 (by decide) ?_
          refine xgoto C 33 dX6_unlike_29 (by decide) ?_
          refine xiaddN C dX6_unlike_33 ?_
          refine xistore_n (lv' := [(1, .int (nI ((cn (fun p => hi p ≠ lo p) i) + 1))), (0, .ref (b 0)), (2, .int (nI i))]) C dX6_unlike_34 (by decide) rfl ?_
          refine xlocals (lv' := [(1, .int (nI (cn (fun p => hi p ≠ lo p) (i + 1)))), (0, .ref (b 0)), (2, .int (nI i))]) (by rw [show cn (fun p => hi p ≠ lo p) (i + 1) = cn (fun p => hi p ≠ lo p) i + bn (hi i ≠ lo i) from rfl, bn_t h25]) ?_
          refine xiincN (lv' := [(2, .int (nI (i + 1))), (1, .int (nI (cn (fun p => hi p ≠ lo p) (i + 1)))), (0, .ref (b 0))]) C 2 rfl dX6_unlike_35 (by decide) rfl ?_
          refine xgoto C 4 dX6_unlike_38 (by decide) ?_
          refine xsub [2, 1, 0] rfl ?_
          exact ih4 (i + 1) (by omega) (by omega)
  refine xsub [2, 1, 0] rfl ?_
  exact LP4 _ 0 (Nat.zero_le _) (Nat.lt_succ_self _)
theorem dX6_meet_0 : decode cX6_meet 0 = .ok (.aload_n 0, 1) := by decide +kernel
theorem dX6_meet_1 : decode cX6_meet 1 = .ok (.aload_n 0, 1) := by decide +kernel
theorem dX6_meet_2 : decode cX6_meet 2 = .ok (.getfield 41, 3) := by decide +kernel
theorem dX6_meet_5 : decode cX6_meet 5 = .ok (.invokevirtual 93, 3) := by decide +kernel
theorem dX6_meet_8 : decode cX6_meet 8 = .ok (.aload_n 0, 1) := by decide +kernel
theorem dX6_meet_9 : decode cX6_meet 9 = .ok (.aload_n 0, 1) := by decide +kernel
theorem dX6_meet_10 : decode cX6_meet 10 = .ok (.getfield 44, 3) := by decide +kernel
theorem dX6_meet_13 : decode cX6_meet 13 = .ok (.invokevirtual 68, 3) := by decide +kernel
theorem dX6_meet_16 : decode cX6_meet 16 = .ok (.aload_n 0, 1) := by decide +kernel
theorem dX6_meet_17 : decode cX6_meet 17 = .ok (.aload_n 0, 1) := by decide +kernel
theorem dX6_meet_18 : decode cX6_meet 18 = .ok (.invokevirtual 128, 3) := by decide +kernel
theorem dX6_meet_21 : decode cX6_meet 21 = .ok (.ifCond .ne 7, 3) := by decide +kernel
theorem dX6_meet_24 : decode cX6_meet 24 = .ok (.iconst 0, 1) := by decide +kernel
theorem dX6_meet_25 : decode cX6_meet 25 = .ok (.goto 4, 3) := by decide +kernel
theorem dX6_meet_28 : decode cX6_meet 28 = .ok (.iconst 1, 1) := by decide +kernel
theorem dX6_meet_29 : decode cX6_meet 29 = .ok (.putfield 132, 3) := by decide +kernel
theorem dX6_meet_32 : decode cX6_meet 32 = .ok (.iload_n 1, 1) := by decide +kernel
theorem dX6_meet_33 : decode cX6_meet 33 = .ok (.ineg, 1) := by decide +kernel
theorem dX6_meet_34 : decode cX6_meet 34 = .ok (.istore_n 2, 1) := by decide +kernel
theorem dX6_meet_35 : decode cX6_meet 35 = .ok (.iload_n 2, 1) := by decide +kernel
theorem dX6_meet_36 : decode cX6_meet 36 = .ok (.ifCond .ge 59, 3) := by decide +kernel
theorem dX6_meet_39 : decode cX6_meet 39 = .ok (.aload_n 0, 1) := by decide +kernel
theorem dX6_meet_40 : decode cX6_meet 40 = .ok (.aload_n 0, 1) := by decide +kernel
theorem dX6_meet_41 : decode cX6_meet 41 = .ok (.getfield 41, 3) := by decide +kernel
theorem dX6_meet_44 : decode cX6_meet 44 = .ok (.iload_n 2, 1) := by decide +kernel
theorem dX6_meet_45 : decode cX6_meet 45 = .ok (.invokevirtual 124, 3) := by decide +kernel
theorem dX6_meet_48 : decode cX6_meet 48 = .ok (.istore_n 3, 1) := by decide +kernel
theorem dX6_meet_49 : decode cX6_meet 49 = .ok (.aload_n 0, 1) := by decide +kernel
theorem dX6_meet_50 : decode cX6_meet 50 = .ok (.aload_n 0, 1) := by decide +kernel
theorem dX6_meet_51 : decode cX6_meet 51 = .ok (.getfield 44, 3) := by decide +kernel
theorem dX6_meet_54 : decode cX6_meet 54 = .ok (.iload_n 2, 1) := by decide +kernel
theorem dX6_meet_55 : decode cX6_meet 55 = .ok (.invokevirtual 124, 3) := by decide +kernel
theorem dX6_meet_58 : decode cX6_meet 58 = .ok (.istore 4, 2) := by decide +kernel
theorem dX6_meet_60 : decode cX6_meet 60 = .ok (.aload_n 0, 1) := by decide +kernel
theorem dX6_meet_61 : decode cX6_meet 61 = .ok (.getfield 132, 3) := by decide +kernel
theorem dX6_meet_64 : decode cX6_meet 64 = .ok (.iconst 1, 1) := by decide +kernel
theorem dX6_meet_65 : decode cX6_meet 65 = .ok (.if_icmp .ne 24, 3) := by decide +kernel
theorem dX6_meet_68 : decode cX6_meet 68 = .ok (.iload_n 3, 1) := by decide +kernel
theorem dX6_meet_69 : decode cX6_meet 69 = .ok (.ifCond .ne 8, 3) := by decide +kernel
theorem dX6_meet_72 : decode cX6_meet 72 = .ok (.iload 4, 2) := by decide +kernel
theorem dX6_meet_74 : decode cX6_meet 74 = .ok (.ifCond .eq 15, 3) := by decide +kernel
theorem dX6_meet_77 : decode cX6_meet 77 = .ok (.aload_n 0, 1) := by decide +kernel
theorem dX6_meet_78 : decode cX6_meet 78 = .ok (.invokevirtual 128, 3) := by decide +kernel
theorem dX6_meet_81 : decode cX6_meet 81 = .ok (.ifCond .ne 8, 3) := by decide +kernel
theorem dX6_meet_84 : decode cX6_meet 84 = .ok (.aload_n 0, 1) := by decide +kernel
theorem dX6_meet_85 : decode cX6_meet 85 = .ok (.iload_n 2, 1) := by decide +kernel
theorem dX6_meet_86 : decode cX6_meet 86 = .ok (.putfield 132, 3) := by decide +kernel
theorem dX6_meet_89 : decode cX6_meet 89 = .ok (.iinc 2 1, 3) := by decide +kernel
theorem dX6_meet_92 : decode cX6_meet 92 = .ok (.goto (-57), 3) := by decide +kernel
theorem dX6_meet_95 : decode cX6_meet 95 = .ok (.aload_n 0, 1) := by decide +kernel
theorem dX6_meet_96 : decode cX6_meet 96 = .ok (.invokevirtual 128, 3) := by decide +kernel
theorem dX6_meet_99 : decode cX6_meet 99 = .ok (.ireturn, 1) := by decide +kernel
def rX6_meet : Room := { frames := 3, cells := 0, slots := 0, locals := 85 }
theorem yk_X6_meet : YK yX6_meet cX6_meet 5 (some .int) 1 := ⟨xim_X6_meet, xse_X6_meet, xin_X6, xco_X6_meet, by decide +kernel⟩
set_option maxRecDepth 4000 in
theorem c_X6_meet {l : Launch} {D : va_G} {t : Nat → ClassId} {b : Nat → Nat} {I : Nat → Int32} {F : Nat → Nat → Int32} {K : Cfg} (hK : CFG K I F) (hW : WFK K) (hg : GoodP K) (hn : 0 < kn K) (sd : Int32) (hsd : I 10 = sd) (B : Nat) (hb : B ≤ 4096) : CT l D t yX6_meet cX6_meet 5 (some .int) rX6_meet 0 0 [.ref (b 0), .int (nI B)] (WM b t I F) (EP (fun v w => v = .int (nI (cn (fun p => itN K sd (hS K) (-nI B) B p ≠ itN K sd (lS K) (-nI B) B p) (kn K))) ∧ ∃ (I' : Nat → Int32) (F' : Nat → Nat → Int32), w = WM b t I' F' ∧ (∀ q, q ≠ 7 → I' q = I q) ∧ I' 7 = fmN K sd B B ∧ (∀ q, q ≠ 8 → q ≠ 9 → F' q = F q) ∧ RA (kn K) (F' 8) (itN K sd (hS K) (-nI B) B) ∧ RA (kn K) (F' 9) (itN K sd (lS K) (-nI B) B))) := by
  refine CT.of (by decide +kernel) (by simp [lg_sl, Value.category]) (fun X C hR => ?_)
  refine xlocals (lv' := [(0, .ref (b 0)), (1, .int (nI B))]) rfl ?_
  have fn24 := hW.n24; have fm60 := hW.m60; have fk2 := hW.k2; have fu1 := hW.u1; have fu9 := hW.u9; have fv1 := hW.v1; have fv9 := hW.v9
  refine xaload_n C 0 rfl dX6_meet_0 ?_
  refine xaload_n C 0 rfl dX6_meet_1 ?_
  refine gX6_41 C dX6_meet_2 ?_
  refine xcVV C (c_X6_layHigh hK hW 8 (by decide) (by decide)) yk_X6_layHigh 0 rfl rfl xml_X6_93 ⟨⟨Nat.le_of_ble_eq_true rfl, Nat.le_of_ble_eq_true rfl⟩, ⟨rfl, rfl⟩, ⟨Nat.zero_le _, Nat.zero_le _⟩⟩ rfl (Nat.le_of_ble_eq_true rfl) dX6_meet_5 (fun wE hE => ?_)
  obtain ⟨F1, rfl, hX1, hR1, _⟩ := hE
  have hK1 : CFG K I F1 := hK.of (fun _ _ => rfl) (fun q hq => hX1 q (by omega))
  refine xaload_n C 0 rfl dX6_meet_8 ?_
  refine xaload_n C 0 rfl dX6_meet_9 ?_
  refine gX6_44 C dX6_meet_10 ?_
  refine xcVV C (c_X6_layLow hK1 hW 9 (by decide) (by decide)) yk_X6_layLow 0 rfl rfl xml_X6_68 ⟨⟨Nat.le_of_ble_eq_true rfl, Nat.le_of_ble_eq_true rfl⟩, ⟨rfl, rfl⟩, ⟨Nat.zero_le _, Nat.zero_le _⟩⟩ rfl (Nat.le_of_ble_eq_true rfl) dX6_meet_13 (fun wE hE => ?_)
  obtain ⟨F2, rfl, hY2, hA9, _⟩ := hE
  have hX2 : (∀ q, q ≠ 8 → q ≠ 9 → F2 q = F q) := fun q h1 h2 => (hY2 q h2).trans (hX1 q h1)
  have hK2 : CFG K I F2 := hK.of (fun _ _ => rfl) (fun q hq => hX2 q (by omega) (by omega))
  have hA8 : RA (kn K) (F2 8) (hS K) := by rw [hY2 8 (by decide)]; exact hR1
  refine xaload_n C 0 rfl dX6_meet_16 ?_
  refine xaload_n C 0 rfl dX6_meet_17 ?_
  refine xcVR C (c_X6_unlike hK2 hW hA8 hA9) yk_X6_unlike 0 rfl rfl xml_X6_128 ⟨⟨Nat.le_of_ble_eq_true rfl, Nat.le_of_ble_eq_true rfl⟩, ⟨rfl, rfl⟩, ⟨Nat.zero_le _, Nat.zero_le _⟩⟩ rfl (Nat.le_of_ble_eq_true rfl) dX6_meet_18 ?_
  have fu18 := cn_le (fun p => (hS K) p ≠ (lS K) p) (kn K)
  refine xif_neN C 28 dX6_meet_21 (by decide) (by omega) (fun h21 => ?_) (fun h21 => ?_)
  ·
    refine xiconst (v := nI 1) C dX6_meet_28 (by decide) ?_
    refine pX6_132 C dX6_meet_29 ?_
    obtain ⟨I0, eI0⟩ : ∃ z : Nat → Int32, z = va_up I 7 (nI 1) := ⟨_, rfl⟩
    refine xworld (ws' := WM b t I0 F2) (by rw [eI0]) ?_
    have hI0 : ∀ q, q ≠ 7 → I0 q = I q := fun q hq => by rw [eI0, va_up_ne _ _ hq]
    have hM0 : I0 7 = fmN K sd B 0 := by rw [eI0, va_up_self]; exact fm_0f (un_n h21)
    refine xiload_n C 1 rfl dX6_meet_32 ?_
    refine xineg C dX6_meet_33 ?_
    refine xistore_n (lv' := [(2, .int (-(nI B))), (0, .ref (b 0)), (1, .int (nI B))]) C dX6_meet_34 (by decide) rfl ?_
    refine xlocals (lv' := [(2, .int (-nI B + nI 0)), (0, .ref (b 0)), (1, .int (nI B))]) (by rw [nI_0]; simp) ?_
    have LP35 : ∀ (fu35 : Nat) (i : Nat) (IA : Nat → Int32) (FA : Nat → Nat → Int32) (hi : i ≤ B) (hIA : ∀ q, q ≠ 7 → IA q = I q) (hMA : IA 7 = fmN K sd B i) (hXA : (∀ q, q ≠ 8 → q ≠ 9 → FA q = F q)) (hHA : RA (kn K) (FA 8) (itN K sd (hS K) (-nI B) i)) (hLA : RA (kn K) (FA 9) (itN K sd (lS K) (-nI B) i)), B - i < fu35 → XW X 0 0 (WM b t IA FA) [(0, .ref (b 0)), (1, .int (nI B)), (2, .int (-nI B + nI i))] 35 [] := by
      intro fu35
      induction fu35 with
      | zero => intro i IA FA hi hIA hMA hXA hHA hLA hm35; exact absurd hm35 (Nat.not_lt_zero _)
      | succ fu35 ih35 =>
        intro i IA FA hi hIA hMA hXA hHA hLA hm35
        have hKA : CFG K IA FA := hK.of (fun q hq => hIA q (by omega)) (fun q hq => hXA q (by omega) (by omega))
        have hsA : IA 10 = sd := (hIA 10 (by decide)).trans hsd
        refine xiload_n C 2 rfl dX6_meet_35 ?_
        refine xif_ge C 95 dX6_meet_36 (by decide) (fun h36 => ?_) (fun h36 => ?_)
        ·
          have h36 := tge hb hi h36
          rw [h36] at hMA hHA hLA
          refine xaload_n C 0 rfl dX6_meet_95 ?_
          refine xcVR C (c_X6_unlike hKA hW hHA hLA) yk_X6_unlike 0 rfl rfl xml_X6_128 ⟨⟨Nat.le_of_ble_eq_true rfl, Nat.le_of_ble_eq_true rfl⟩, ⟨rfl, rfl⟩, ⟨Nat.zero_le _, Nat.zero_le _⟩⟩ rfl (Nat.le_of_ble_eq_true rfl) dX6_meet_96 ?_
          have fu96 := cn_le (fun p => (itN K sd (hS K) (-nI B) B) p ≠ (itN K sd (lS K) (-nI B) B) p) (kn K)
          exact xret C hR (rfl) dX6_meet_99 (⟨_, rfl, rfl, IA, FA, rfl, hIA, hMA, hXA, hHA, hLA⟩)
        ·
          have h36 := tnge hb hi h36
          refine xaload_n C 0 rfl dX6_meet_39 ?_
          refine xaload_n C 0 rfl dX6_meet_40 ?_
          refine gX6_41 C dX6_meet_41 ?_
          refine xiload_n C 2 rfl dX6_meet_44 ?_
          refine xcVE C (c_X6_tick1 hKA hW 8 (by decide) (by decide) hHA hn sd (-nI B + nI i) hsA (HE_it hW hn (HE_hS hW hg) i)) yk_X6_tick1 0 rfl rfl xml_X6_124 ⟨⟨Nat.le_of_ble_eq_true rfl, Nat.le_of_ble_eq_true rfl⟩, ⟨rfl, rfl⟩, ⟨Nat.zero_le _, Nat.zero_le _⟩⟩ rfl (Nat.le_of_ble_eq_true rfl) dX6_meet_45 (fun vE wE hE => ?_)
          obtain ⟨rfl, FB, rfl, hFB, hHB⟩ := hE
          have hXB : (∀ q, q ≠ 8 → q ≠ 9 → FB q = F q) := fun q h1 h2 => by rw [hFB q h1]; exact hXA q h1 h2
          have hKB : CFG K IA FB := hK.of (fun q hq => hIA q (by omega)) (fun q hq => hXB q (by omega) (by omega))
          have hLB : RA (kn K) (FB 9) (itN K sd (lS K) (-nI B) i) := by rw [hFB 9 (by decide)]; exact hLA
          refine xistore_n (lv' := [(3, .int (nI (bn (chgP K sd (itN K sd (hS K) (-nI B) i) (-nI B + nI i))))), (0, .ref (b 0)), (1, .int (nI B)), (2, .int (-nI B + nI i))]) C dX6_meet_48 (by decide) rfl ?_
          refine xaload_n C 1 rfl dX6_meet_49 ?_
          refine xaload_n C 1 rfl dX6_meet_50 ?_
          refine gX6_44 C dX6_meet_51 ?_
          refine xiload_n C 3 rfl dX6_meet_54 ?_
          refine xcVE C (c_X6_tick1 hKB hW 9 (by decide) (by decide) hLB hn sd (-nI B + nI i) hsA (HE_it hW hn (HE_lS hW hg) i)) yk_X6_tick1 0 rfl rfl xml_X6_124 ⟨⟨Nat.le_of_ble_eq_true rfl, Nat.le_of_ble_eq_true rfl⟩, ⟨rfl, rfl⟩, ⟨Nat.zero_le _, Nat.zero_le _⟩⟩ rfl (Nat.le_of_ble_eq_true rfl) dX6_meet_55 (fun vE wE hE => ?_)
          obtain ⟨rfl, FC, rfl, hFC, hLC⟩ := hE
          have hLC : RA (kn K) (FC 9) (itN K sd (lS K) (-nI B) (i + 1)) := hLC
          have hXC : (∀ q, q ≠ 8 → q ≠ 9 → FC q = F q) := fun q h1 h2 => by rw [hFC q h2]; exact hXB q h1 h2
          have hKC : CFG K IA FC := hK.of (fun q hq => hIA q (by omega)) (fun q hq => hXC q (by omega) (by omega))
          have hHC : RA (kn K) (FC 8) (itN K sd (hS K) (-nI B) (i + 1)) := by rw [hFC 8 (by decide)]; exact hHB
          refine xistore (lv' := [(4, .int (nI (bn (chgP K sd (itN K sd (lS K) (-nI B) i) (-nI B + nI i))))), (3, .int (nI (bn (chgP K sd (itN K sd (hS K) (-nI B) i) (-nI B + nI i))))), (0, .ref (b 0)), (1, .int (nI B)), (2, .int (-nI B + nI i))]) C dX6_meet_58 (by decide) rfl ?_
          refine xaload_n C 2 rfl dX6_meet_60 ?_
          refine gX6_132 C dX6_meet_61 ?_
          refine xtopi (y := (fmN K sd B i)) (hMA) ?_
          refine xiconst (v := 1) C dX6_meet_64 (by decide) ?_
          refine xicmp_ne C 89 dX6_meet_65 (by decide) (fun h65 => ?_) (fun h65 => ?_)
          ·
            have hM2 : IA 7 = fmN K sd B (i + 1) := hMA.trans (fm_keep h65).symm
            refine xiinc (v := -nI B + nI i + 1) (lv' := [(2, .int (-nI B + nI i + 1)), (4, .int (nI (bn (chgP K sd (itN K sd (lS K) (-nI B) i) (-nI B + nI i))))), (3, .int (nI (bn (chgP K sd (itN K sd (hS K) (-nI B) i) (-nI B + nI i))))), (0, .ref (b 0)), (1, .int (nI B))]) C 4 rfl dX6_meet_89 rfl (by decide) rfl ?_
            refine xlocals (lv' := [(2, .int (-nI B + nI (i + 1))), (4, .int (nI (bn (chgP K sd (itN K sd (lS K) (-nI B) i) (-nI B + nI i))))), (3, .int (nI (bn (chgP K sd (itN K sd (hS K) (-nI B) i) (-nI B + nI i))))), (0, .ref (b 0)), (1, .int (nI B))]) (by rw [nI_succ, Int32.add_assoc]) ?_
            refine xgoto C 35 dX6_meet_92 (by decide) ?_
            refine xsub [3, 4, 0] rfl ?_
            exact ih35 (i + 1) IA FC (by omega) hIA hM2 hXC hHC hLC (by omega)
          ·
            refine xiload_n C 1 rfl dX6_meet_68 ?_
            refine xif_neN C 77 dX6_meet_69 (by decide) (bn_lt _) (fun h69 => ?_) (fun h69 => ?_)
            ·
              refine xaload_n C 2 rfl dX6_meet_77 ?_
              refine xcVR C (c_X6_unlike hKC hW hHC hLC) yk_X6_unlike 0 rfl rfl xml_X6_128 ⟨⟨Nat.le_of_ble_eq_true rfl, Nat.le_of_ble_eq_true rfl⟩, ⟨rfl, rfl⟩, ⟨Nat.zero_le _, Nat.zero_le _⟩⟩ rfl (Nat.le_of_ble_eq_true rfl) dX6_meet_78 ?_
              have fu78 := cn_le (fun p => (itN K sd (hS K) (-nI B) (i + 1)) p ≠ (itN K sd (lS K) (-nI B) (i + 1)) p) (kn K)
              refine xif_neN C 89 dX6_meet_81 (by decide) (by omega) (fun h81 => ?_) (fun h81 => ?_)
              ·
                have hM2 : IA 7 = fmN K sd B (i + 1) := hMA.trans (fm_no hb hi h65 (un_n h81)).symm
                refine xiinc (v := -nI B + nI i + 1) (lv' := [(2, .int (-nI B + nI i + 1)), (4, .int (nI (bn (chgP K sd (itN K sd (lS K) (-nI B) i) (-nI B + nI i))))), (3, .int (nI (bn (chgP K sd (itN K sd (hS K) (-nI B) i) (-nI B + nI i))))), (0, .ref (b 0)), (1, .int (nI B))]) C 4 rfl dX6_meet_89 rfl (by decide) rfl ?_
                refine xlocals (lv' := [(2, .int (-nI B + nI (i + 1))), (4, .int (nI (bn (chgP K sd (itN K sd (lS K) (-nI B) i) (-nI B + nI i))))), (3, .int (nI (bn (chgP K sd (itN K sd (hS K) (-nI B) i) (-nI B + nI i))))), (0, .ref (b 0)), (1, .int (nI B))]) (by rw [nI_succ, Int32.add_assoc]) ?_
                refine xgoto C 35 dX6_meet_92 (by decide) ?_
                refine xsub [3, 4, 0] rfl ?_
                exact ih35 (i + 1) IA FC (by omega) hIA hM2 hXC hHC hLC (by omega)
              ·
                refine xaload_n C 2 rfl dX6_meet_84 ?_
                refine xiload_n C 4 rfl dX6_meet_85 ?_
                refine pX6_132 C dX6_meet_86 ?_
                obtain ⟨IB, eIB⟩ : ∃ z : Nat → Int32, z = va_up IA 7 (-nI B + nI i) := ⟨_, rfl⟩
                refine xworld (ws' := WM b t IB FC) (by rw [eIB]) ?_
                have hIB : ∀ q, q ≠ 7 → IB q = I q := fun q hq => by rw [eIB, va_up_ne _ _ hq]; exact hIA q hq
                have hM2 : IB 7 = fmN K sd B (i + 1) := by rw [eIB, va_up_self]; exact (fm_now hb hi h65 (un_e h81)).symm
                refine xiinc (v := -nI B + nI i + 1) (lv' := [(2, .int (-nI B + nI i + 1)), (4, .int (nI (bn (chgP K sd (itN K sd (lS K) (-nI B) i) (-nI B + nI i))))), (3, .int (nI (bn (chgP K sd (itN K sd (hS K) (-nI B) i) (-nI B + nI i))))), (0, .ref (b 0)), (1, .int (nI B))]) C 4 rfl dX6_meet_89 rfl (by decide) rfl ?_
                refine xlocals (lv' := [(2, .int (-nI B + nI (i + 1))), (4, .int (nI (bn (chgP K sd (itN K sd (lS K) (-nI B) i) (-nI B + nI i))))), (3, .int (nI (bn (chgP K sd (itN K sd (hS K) (-nI B) i) (-nI B + nI i))))), (0, .ref (b 0)), (1, .int (nI B))]) (by rw [nI_succ, Int32.add_assoc]) ?_
                refine xgoto C 35 dX6_meet_92 (by decide) ?_
                refine xsub [3, 4, 0] rfl ?_
                exact ih35 (i + 1) IB FC (by omega) hIB hM2 hXC hHC hLC (by omega)
            ·
              refine xiload C 0 rfl dX6_meet_72 ?_
              refine xif_eqN C 89 dX6_meet_74 (by decide) (bn_lt _) (fun h74 => ?_) (fun h74 => ?_)
              ·
                have hM2 : IA 7 = fmN K sd B (i + 1) := hMA.trans (fm_still hb hi h65 (bn_0 h69) (bn_0 h74)).symm
                refine xiinc (v := -nI B + nI i + 1) (lv' := [(2, .int (-nI B + nI i + 1)), (4, .int (nI (bn (chgP K sd (itN K sd (lS K) (-nI B) i) (-nI B + nI i))))), (3, .int (nI (bn (chgP K sd (itN K sd (hS K) (-nI B) i) (-nI B + nI i))))), (0, .ref (b 0)), (1, .int (nI B))]) C 4 rfl dX6_meet_89 rfl (by decide) rfl ?_
                refine xlocals (lv' := [(2, .int (-nI B + nI (i + 1))), (4, .int (nI (bn (chgP K sd (itN K sd (lS K) (-nI B) i) (-nI B + nI i))))), (3, .int (nI (bn (chgP K sd (itN K sd (hS K) (-nI B) i) (-nI B + nI i))))), (0, .ref (b 0)), (1, .int (nI B))]) (by rw [nI_succ, Int32.add_assoc]) ?_
                refine xgoto C 35 dX6_meet_92 (by decide) ?_
                refine xsub [3, 4, 0] rfl ?_
                exact ih35 (i + 1) IA FC (by omega) hIA hM2 hXC hHC hLC (by omega)
              ·
                refine xaload_n C 2 rfl dX6_meet_77 ?_
                refine xcVR C (c_X6_unlike hKC hW hHC hLC) yk_X6_unlike 0 rfl rfl xml_X6_128 ⟨⟨Nat.le_of_ble_eq_true rfl, Nat.le_of_ble_eq_true rfl⟩, ⟨rfl, rfl⟩, ⟨Nat.zero_le _, Nat.zero_le _⟩⟩ rfl (Nat.le_of_ble_eq_true rfl) dX6_meet_78 ?_
                have fu78 := cn_le (fun p => (itN K sd (hS K) (-nI B) (i + 1)) p ≠ (itN K sd (lS K) (-nI B) (i + 1)) p) (kn K)
                refine xif_neN C 89 dX6_meet_81 (by decide) (by omega) (fun h81 => ?_) (fun h81 => ?_)
                ·
                  have hM2 : IA 7 = fmN K sd B (i + 1) := hMA.trans (fm_no hb hi h65 (un_n h81)).symm
                  refine xiinc (v := -nI B + nI i + 1) (lv' := [(2, .int (-nI B + nI i + 1)), (4, .int (nI (bn (chgP K sd (itN K sd (lS K) (-nI B) i) (-nI B + nI i))))), (3, .int (nI (bn (chgP K sd (itN K sd (hS K) (-nI B) i) (-nI B + nI i))))), (0, .ref (b 0)), (1, .int (nI B))]) C 4 rfl dX6_meet_89 rfl (by decide) rfl ?_
                  refine xlocals (lv' := [(2, .int (-nI B + nI (i + 1))), (4, .int (nI (bn (chgP K sd (itN K sd (lS K) (-nI B) i) (-nI B + nI i))))), (3, .int (nI (bn (chgP K sd (itN K sd (hS K) (-nI B) i) (-nI B + nI i))))), (0, .ref (b 0)), (1, .int (nI B))]) (by rw [nI_succ, Int32.add_assoc]) ?_
                  refine xgoto C 35 dX6_meet_92 (by decide) ?_
                  refine xsub [3, 4, 0] rfl ?_
                  exact ih35 (i + 1) IA FC (by omega) hIA hM2 hXC hHC hLC (by omega)
                ·
                  refine xaload_n C 2 rfl dX6_meet_84 ?_
                  refine xiload_n C 4 rfl dX6_meet_85 ?_
                  refine pX6_132 C dX6_meet_86 ?_
                  obtain ⟨IB, eIB⟩ : ∃ z : Nat → Int32, z = va_up IA 7 (-nI B + nI i) := ⟨_, rfl⟩
                  refine xworld (ws' := WM b t IB FC) (by rw [eIB]) ?_
                  have hIB : ∀ q, q ≠ 7 → IB q = I q := fun q hq => by rw [eIB, va_up_ne _ _ hq]; exact hIA q hq
                  have hM2 : IB 7 = fmN K sd B (i + 1) := by rw [eIB, va_up_self]; exact (fm_now hb hi h65 (un_e h81)).symm
                  refine xiinc (v := -nI B + nI i + 1) (lv' := [(2, .int (-nI B + nI i + 1)), (4, .int (nI (bn (chgP K sd (itN K sd (lS K) (-nI B) i) (-nI B + nI i))))), (3, .int (nI (bn (chgP K sd (itN K sd (hS K) (-nI B) i) (-nI B + nI i))))), (0, .ref (b 0)), (1, .int (nI B))]) C 4 rfl dX6_meet_89 rfl (by decide) rfl ?_
                  refine xlocals (lv' := [(2, .int (-nI B + nI (i + 1))), (4, .int (nI (bn (chgP K sd (itN K sd (lS K) (-nI B) i) (-nI B + nI i))))), (3, .int (nI (bn (chgP K sd (itN K sd (hS K) (-nI B) i) (-nI B + nI i))))), (0, .ref (b 0)), (1, .int (nI B))]) (by rw [nI_succ, Int32.add_assoc]) ?_
                  refine xgoto C 35 dX6_meet_92 (by decide) ?_
                  refine xsub [3, 4, 0] rfl ?_
                  exact ih35 (i + 1) IB FC (by omega) hIB hM2 hXC hHC hLC (by omega)
    refine xsub [1, 2, 0] rfl ?_
    exact LP35 _ 0 I0 F2 (Nat.zero_le _) hI0 hM0 hX2 hA8 hA9 (Nat.lt_succ_self _)
  ·
    refine xiconst (v := nI 0) C dX6_meet_24 (by decide) ?_
    refine xgoto C 29 dX6_meet_25 (by decide) ?_
    refine pX6_132 C dX6_meet_29 ?_
    obtain ⟨I0, eI0⟩ : ∃ z : Nat → Int32, z = va_up I 7 (nI 0) := ⟨_, rfl⟩
    refine xworld (ws' := WM b t I0 F2) (by rw [eI0]) ?_
    have hI0 : ∀ q, q ≠ 7 → I0 q = I q := fun q hq => by rw [eI0, va_up_ne _ _ hq]
    have hM0 : I0 7 = fmN K sd B 0 := by rw [eI0, va_up_self]; exact fm_0t (un_e h21)
    refine xiload_n C 1 rfl dX6_meet_32 ?_
    refine xineg C dX6_meet_33 ?_
    refine xistore_n (lv' := [(2, .int (-(nI B))), (0, .ref (b 0)), (1, .int (nI B))]) C dX6_meet_34 (by decide) rfl ?_
    refine xlocals (lv' := [(2, .int (-nI B + nI 0)), (0, .ref (b 0)), (1, .int (nI B))]) (by rw [nI_0]; simp) ?_
    have LP35 : ∀ (fu35 : Nat) (i : Nat) (IA : Nat → Int32) (FA : Nat → Nat → Int32) (hi : i ≤ B) (hIA : ∀ q, q ≠ 7 → IA q = I q) (hMA : IA 7 = fmN K sd B i) (hXA : (∀ q, q ≠ 8 → q ≠ 9 → FA q = F q)) (hHA : RA (kn K) (FA 8) (itN K sd (hS K) (-nI B) i)) (hLA : RA (kn K) (FA 9) (itN K sd (lS K) (-nI B) i)), B - i < fu35 → XW X 0 0 (WM b t IA FA) [(0, .ref (b 0)), (1, .int (nI B)), (2, .int (-nI B + nI i))] 35 [] := by
      intro fu35
      induction fu35 with
      | zero => intro i IA FA hi hIA hMA hXA hHA hLA hm35; exact absurd hm35 (Nat.not_lt_zero _)
      | succ fu35 ih35 =>
        intro i IA FA hi hIA hMA hXA hHA hLA hm35
        have hKA : CFG K IA FA := hK.of (fun q hq => hIA q (by omega)) (fun q hq => hXA q (by omega) (by omega))
        have hsA : IA 10 = sd := (hIA 10 (by decide)).trans hsd
        refine xiload_n C 2 rfl dX6_meet_35 ?_
        refine xif_ge C 95 dX6_meet_36 (by decide) (fun h36 => ?_) (fun h36 => ?_)
        ·
          have h36 := tge hb hi h36
          rw [h36] at hMA hHA hLA
          refine xaload_n C 0 rfl dX6_meet_95 ?_
          refine xcVR C (c_X6_unlike hKA hW hHA hLA) yk_X6_unlike 0 rfl rfl xml_X6_128 ⟨⟨Nat.le_of_ble_eq_true rfl, Nat.le_of_ble_eq_true rfl⟩, ⟨rfl, rfl⟩, ⟨Nat.zero_le _, Nat.zero_le _⟩⟩ rfl (Nat.le_of_ble_eq_true rfl) dX6_meet_96 ?_
          have fu96 := cn_le (fun p => (itN K sd (hS K) (-nI B) B) p ≠ (itN K sd (lS K) (-nI B) B) p) (kn K)
          exact xret C hR (rfl) dX6_meet_99 (⟨_, rfl, rfl, IA, FA, rfl, hIA, hMA, hXA, hHA, hLA⟩)
        ·
          have h36 := tnge hb hi h36
          refine xaload_n C 0 rfl dX6_meet_39 ?_
          refine xaload_n C 0 rfl dX6_meet_40 ?_
          refine gX6_41 C dX6_meet_41 ?_
          refine xiload_n C 2 rfl dX6_meet_44 ?_
          refine xcVE C (c_X6_tick1 hKA hW 8 (by decide) (by decide) hHA hn sd (-nI B + nI i) hsA (HE_it hW hn (HE_hS hW hg) i)) yk_X6_tick1 0 rfl rfl xml_X6_124 ⟨⟨Nat.le_of_ble_eq_true rfl, Nat.le_of_ble_eq_true rfl⟩, ⟨rfl, rfl⟩, ⟨Nat.zero_le _, Nat.zero_le _⟩⟩ rfl (Nat.le_of_ble_eq_true rfl) dX6_meet_45 (fun vE wE hE => ?_)
          obtain ⟨rfl, FB, rfl, hFB, hHB⟩ := hE
          have hXB : (∀ q, q ≠ 8 → q ≠ 9 → FB q = F q) := fun q h1 h2 => by rw [hFB q h1]; exact hXA q h1 h2
          have hKB : CFG K IA FB := hK.of (fun q hq => hIA q (by omega)) (fun q hq => hXB q (by omega) (by omega))
          have hLB : RA (kn K) (FB 9) (itN K sd (lS K) (-nI B) i) := by rw [hFB 9 (by decide)]; exact hLA
          refine xistore_n (lv' := [(3, .int (nI (bn (chgP K sd (itN K sd (hS K) (-nI B) i) (-nI B + nI i))))), (0, .ref (b 0)), (1, .int (nI B)), (2, .int (-nI B + nI i))]) C dX6_meet_48 (by decide) rfl ?_
          refine xaload_n C 1 rfl dX6_meet_49 ?_
          refine xaload_n C 1 rfl dX6_meet_50 ?_
          refine gX6_44 C dX6_meet_51 ?_
          refine xiload_n C 3 rfl dX6_meet_54 ?_
          refine xcVE C (c_X6_tick1 hKB hW 9 (by decide) (by decide) hLB hn sd (-nI B + nI i) hsA (HE_it hW hn (HE_lS hW hg) i)) yk_X6_tick1 0 rfl rfl xml_X6_124 ⟨⟨Nat.le_of_ble_eq_true rfl, Nat.le_of_ble_eq_true rfl⟩, ⟨rfl, rfl⟩, ⟨Nat.zero_le _, Nat.zero_le _⟩⟩ rfl (Nat.le_of_ble_eq_true rfl) dX6_meet_55 (fun vE wE hE => ?_)
          obtain ⟨rfl, FC, rfl, hFC, hLC⟩ := hE
          have hLC : RA (kn K) (FC 9) (itN K sd (lS K) (-nI B) (i + 1)) := hLC
          have hXC : (∀ q, q ≠ 8 → q ≠ 9 → FC q = F q) := fun q h1 h2 => by rw [hFC q h2]; exact hXB q h1 h2
          have hKC : CFG K IA FC := hK.of (fun q hq => hIA q (by omega)) (fun q hq => hXC q (by omega) (by omega))
          have hHC : RA (kn K) (FC 8) (itN K sd (hS K) (-nI B) (i + 1)) := by rw [hFC 8 (by decide)]; exact hHB
          refine xistore (lv' := [(4, .int (nI (bn (chgP K sd (itN K sd (lS K) (-nI B) i) (-nI B + nI i))))), (3, .int (nI (bn (chgP K sd (itN K sd (hS K) (-nI B) i) (-nI B + nI i))))), (0, .ref (b 0)), (1, .int (nI B)), (2, .int (-nI B + nI i))]) C dX6_meet_58 (by decide) rfl ?_
          refine xaload_n C 2 rfl dX6_meet_60 ?_
          refine gX6_132 C dX6_meet_61 ?_
          refine xtopi (y := (fmN K sd B i)) (hMA) ?_
          refine xiconst (v := 1) C dX6_meet_64 (by decide) ?_
          refine xicmp_ne C 89 dX6_meet_65 (by decide) (fun h65 => ?_) (fun h65 => ?_)
          ·
            have hM2 : IA 7 = fmN K sd B (i + 1) := hMA.trans (fm_keep h65).symm
            refine xiinc (v := -nI B + nI i + 1) (lv' := [(2, .int (-nI B + nI i + 1)), (4, .int (nI (bn (chgP K sd (itN K sd (lS K) (-nI B) i) (-nI B + nI i))))), (3, .int (nI (bn (chgP K sd (itN K sd (hS K) (-nI B) i) (-nI B + nI i))))), (0, .ref (b 0)), (1, .int (nI B))]) C 4 rfl dX6_meet_89 rfl (by decide) rfl ?_
            refine xlocals (lv' := [(2, .int (-nI B + nI (i + 1))), (4, .int (nI (bn (chgP K sd (itN K sd (lS K) (-nI B) i) (-nI B + nI i))))), (3, .int (nI (bn (chgP K sd (itN K sd (hS K) (-nI B) i) (-nI B + nI i))))), (0, .ref (b 0)), (1, .int (nI B))]) (by rw [nI_succ, Int32.add_assoc]) ?_
            refine xgoto C 35 dX6_meet_92 (by decide) ?_
            refine xsub [3, 4, 0] rfl ?_
            exact ih35 (i + 1) IA FC (by omega) hIA hM2 hXC hHC hLC (by omega)
          ·
            refine xiload_n C 1 rfl dX6_meet_68 ?_
            refine xif_neN C 77 dX6_meet_69 (by decide) (bn_lt _) (fun h69 => ?_) (fun h69 => ?_)
            ·
              refine xaload_n C 2 rfl dX6_meet_77 ?_
              refine xcVR C (c_X6_unlike hKC hW hHC hLC) yk_X6_unlike 0 rfl rfl xml_X6_128 ⟨⟨Nat.le_of_ble_eq_true rfl, Nat.le_of_ble_eq_true rfl⟩, ⟨rfl, rfl⟩, ⟨Nat.zero_le _, Nat.zero_le _⟩⟩ rfl (Nat.le_of_ble_eq_true rfl) dX6_meet_78 ?_
              have fu78 := cn_le (fun p => (itN K sd (hS K) (-nI B) (i + 1)) p ≠ (itN K sd (lS K) (-nI B) (i + 1)) p) (kn K)
              refine xif_neN C 89 dX6_meet_81 (by decide) (by omega) (fun h81 => ?_) (fun h81 => ?_)
              ·
                have hM2 : IA 7 = fmN K sd B (i + 1) := hMA.trans (fm_no hb hi h65 (un_n h81)).symm
                refine xiinc (v := -nI B + nI i + 1) (lv' := [(2, .int (-nI B + nI i + 1)), (4, .int (nI (bn (chgP K sd (itN K sd (lS K) (-nI B) i) (-nI B + nI i))))), (3, .int (nI (bn (chgP K sd (itN K sd (hS K) (-nI B) i) (-nI B + nI i))))), (0, .ref (b 0)), (1, .int (nI B))]) C 4 rfl dX6_meet_89 rfl (by decide) rfl ?_
                refine xlocals (lv' := [(2, .int (-nI B + nI (i + 1))), (4, .int (nI (bn (chgP K sd (itN K sd (lS K) (-nI B) i) (-nI B + nI i))))), (3, .int (nI (bn (chgP K sd (itN K sd (hS K) (-nI B) i) (-nI B + nI i))))), (0, .ref (b 0)), (1, .int (nI B))]) (by rw [nI_succ, Int32.add_assoc]) ?_
                refine xgoto C 35 dX6_meet_92 (by decide) ?_
                refine xsub [3, 4, 0] rfl ?_
                exact ih35 (i + 1) IA FC (by omega) hIA hM2 hXC hHC hLC (by omega)
              ·
                refine xaload_n C 2 rfl dX6_meet_84 ?_
                refine xiload_n C 4 rfl dX6_meet_85 ?_
                refine pX6_132 C dX6_meet_86 ?_
                obtain ⟨IB, eIB⟩ : ∃ z : Nat → Int32, z = va_up IA 7 (-nI B + nI i) := ⟨_, rfl⟩
                refine xworld (ws' := WM b t IB FC) (by rw [eIB]) ?_
                have hIB : ∀ q, q ≠ 7 → IB q = I q := fun q hq => by rw [eIB, va_up_ne _ _ hq]; exact hIA q hq
                have hM2 : IB 7 = fmN K sd B (i + 1) := by rw [eIB, va_up_self]; exact (fm_now hb hi h65 (un_e h81)).symm
                refine xiinc (v := -nI B + nI i + 1) (lv' := [(2, .int (-nI B + nI i + 1)), (4, .int (nI (bn (chgP K sd (itN K sd (lS K) (-nI B) i) (-nI B + nI i))))), (3, .int (nI (bn (chgP K sd (itN K sd (hS K) (-nI B) i) (-nI B + nI i))))), (0, .ref (b 0)), (1, .int (nI B))]) C 4 rfl dX6_meet_89 rfl (by decide) rfl ?_
                refine xlocals (lv' := [(2, .int (-nI B + nI (i + 1))), (4, .int (nI (bn (chgP K sd (itN K sd (lS K) (-nI B) i) (-nI B + nI i))))), (3, .int (nI (bn (chgP K sd (itN K sd (hS K) (-nI B) i) (-nI B + nI i))))), (0, .ref (b 0)), (1, .int (nI B))]) (by rw [nI_succ, Int32.add_assoc]) ?_
                refine xgoto C 35 dX6_meet_92 (by decide) ?_
                refine xsub [3, 4, 0] rfl ?_
                exact ih35 (i + 1) IB FC (by omega) hIB hM2 hXC hHC hLC (by omega)
            ·
              refine xiload C 0 rfl dX6_meet_72 ?_
              refine xif_eqN C 89 dX6_meet_74 (by decide) (bn_lt _) (fun h74 => ?_) (fun h74 => ?_)
              ·
                have hM2 : IA 7 = fmN K sd B (i + 1) := hMA.trans (fm_still hb hi h65 (bn_0 h69) (bn_0 h74)).symm
                refine xiinc (v := -nI B + nI i + 1) (lv' := [(2, .int (-nI B + nI i + 1)), (4, .int (nI (bn (chgP K sd (itN K sd (lS K) (-nI B) i) (-nI B + nI i))))), (3, .int (nI (bn (chgP K sd (itN K sd (hS K) (-nI B) i) (-nI B + nI i))))), (0, .ref (b 0)), (1, .int (nI B))]) C 4 rfl dX6_meet_89 rfl (by decide) rfl ?_
                refine xlocals (lv' := [(2, .int (-nI B + nI (i + 1))), (4, .int (nI (bn (chgP K sd (itN K sd (lS K) (-nI B) i) (-nI B + nI i))))), (3, .int (nI (bn (chgP K sd (itN K sd (hS K) (-nI B) i) (-nI B + nI i))))), (0, .ref (b 0)), (1, .int (nI B))]) (by rw [nI_succ, Int32.add_assoc]) ?_
                refine xgoto C 35 dX6_meet_92 (by decide) ?_
                refine xsub [3, 4, 0] rfl ?_
                exact ih35 (i + 1) IA FC (by omega) hIA hM2 hXC hHC hLC (by omega)
              ·
                refine xaload_n C 2 rfl dX6_meet_77 ?_
                refine xcVR C (c_X6_unlike hKC hW hHC hLC) yk_X6_unlike 0 rfl rfl xml_X6_128 ⟨⟨Nat.le_of_ble_eq_true rfl, Nat.le_of_ble_eq_true rfl⟩, ⟨rfl, rfl⟩, ⟨Nat.zero_le _, Nat.zero_le _⟩⟩ rfl (Nat.le_of_ble_eq_true rfl) dX6_meet_78 ?_
                have fu78 := cn_le (fun p => (itN K sd (hS K) (-nI B) (i + 1)) p ≠ (itN K sd (lS K) (-nI B) (i + 1)) p) (kn K)
                refine xif_neN C 89 dX6_meet_81 (by decide) (by omega) (fun h81 => ?_) (fun h81 => ?_)
                ·
                  have hM2 : IA 7 = fmN K sd B (i + 1) := hMA.trans (fm_no hb hi h65 (un_n h81)).symm
                  refine xiinc (v := -nI B + nI i + 1) (lv' := [(2, .int (-nI B + nI i + 1)), (4, .int (nI (bn (chgP K sd (itN K sd (lS K) (-nI B) i) (-nI B + nI i))))), (3, .int (nI (bn (chgP K sd (itN K sd (hS K) (-nI B) i) (-nI B + nI i))))), (0, .ref (b 0)), (1, .int (nI B))]) C 4 rfl dX6_meet_89 rfl (by decide) rfl ?_
                  refine xlocals (lv' := [(2, .int (-nI B + nI (i + 1))), (4, .int (nI (bn (chgP K sd (itN K sd (lS K) (-nI B) i) (-nI B + nI i))))), (3, .int (nI (bn (chgP K sd (itN K sd (hS K) (-nI B) i) (-nI B + nI i))))), (0, .ref (b 0)), (1, .int (nI B))]) (by rw [nI_succ, Int32.add_assoc]) ?_
                  refine xgoto C 35 dX6_meet_92 (by decide) ?_
                  refine xsub [3, 4, 0] rfl ?_
                  exact ih35 (i + 1) IA FC (by omega) hIA hM2 hXC hHC hLC (by omega)
                ·
                  refine xaload_n C 2 rfl dX6_meet_84 ?_
                  refine xiload_n C 4 rfl dX6_meet_85 ?_
                  refine pX6_132 C dX6_meet_86 ?_
                  obtain ⟨IB, eIB⟩ : ∃ z : Nat → Int32, z = va_up IA 7 (-nI B + nI i) := ⟨_, rfl⟩
                  refine xworld (ws' := WM b t IB FC) (by rw [eIB]) ?_
                  have hIB : ∀ q, q ≠ 7 → IB q = I q := fun q hq => by rw [eIB, va_up_ne _ _ hq]; exact hIA q hq
                  have hM2 : IB 7 = fmN K sd B (i + 1) := by rw [eIB, va_up_self]; exact (fm_now hb hi h65 (un_e h81)).symm
                  refine xiinc (v := -nI B + nI i + 1) (lv' := [(2, .int (-nI B + nI i + 1)), (4, .int (nI (bn (chgP K sd (itN K sd (lS K) (-nI B) i) (-nI B + nI i))))), (3, .int (nI (bn (chgP K sd (itN K sd (hS K) (-nI B) i) (-nI B + nI i))))), (0, .ref (b 0)), (1, .int (nI B))]) C 4 rfl dX6_meet_89 rfl (by decide) rfl ?_
                  refine xlocals (lv' := [(2, .int (-nI B + nI (i + 1))), (4, .int (nI (bn (chgP K sd (itN K sd (lS K) (-nI B) i) (-nI B + nI i))))), (3, .int (nI (bn (chgP K sd (itN K sd (hS K) (-nI B) i) (-nI B + nI i))))), (0, .ref (b 0)), (1, .int (nI B))]) (by rw [nI_succ, Int32.add_assoc]) ?_
                  refine xgoto C 35 dX6_meet_92 (by decide) ?_
                  refine xsub [3, 4, 0] rfl ?_
                  exact ih35 (i + 1) IB FC (by omega) hIB hM2 hXC hHC hLC (by omega)
    refine xsub [1, 2, 0] rfl ?_
    exact LP35 _ 0 I0 F2 (Nat.zero_le _) hI0 hM0 hX2 hA8 hA9 (Nat.lt_succ_self _)
theorem dX6_gap_0 : decode cX6_gap 0 = .ok (.iload_n 1, 1) := by decide +kernel
theorem dX6_gap_1 : decode cX6_gap 1 = .ok (.iconst 0, 1) := by decide +kernel
theorem dX6_gap_2 : decode cX6_gap 2 = .ok (.sipush 4096, 3) := by decide +kernel
theorem dX6_gap_5 : decode cX6_gap 5 = .ok (.invokestatic 56, 3) := by decide +kernel
theorem dX6_gap_8 : decode cX6_gap 8 = .ok (.ifCond .ne 6, 3) := by decide +kernel
theorem dX6_gap_11 : decode cX6_gap 11 = .ok (.bipush (-2), 2) := by decide +kernel
theorem dX6_gap_13 : decode cX6_gap 13 = .ok (.ireturn, 1) := by decide +kernel
theorem dX6_gap_14 : decode cX6_gap 14 = .ok (.aload_n 0, 1) := by decide +kernel
theorem dX6_gap_15 : decode cX6_gap 15 = .ok (.invokevirtual 64, 3) := by decide +kernel
theorem dX6_gap_18 : decode cX6_gap 18 = .ok (.ifCond .eq 11, 3) := by decide +kernel
theorem dX6_gap_21 : decode cX6_gap 21 = .ok (.aload_n 0, 1) := by decide +kernel
theorem dX6_gap_22 : decode cX6_gap 22 = .ok (.iload_n 1, 1) := by decide +kernel
theorem dX6_gap_23 : decode cX6_gap 23 = .ok (.invokevirtual 135, 3) := by decide +kernel
theorem dX6_gap_26 : decode cX6_gap 26 = .ok (.goto 5, 3) := by decide +kernel
theorem dX6_gap_29 : decode cX6_gap 29 = .ok (.bipush (-5), 2) := by decide +kernel
theorem dX6_gap_31 : decode cX6_gap 31 = .ok (.ireturn, 1) := by decide +kernel
def rX6_gap : Room := { frames := 4, cells := 0, slots := 0, locals := 109 }
theorem yk_X6_gap : YK yX6_gap cX6_gap 2 (some .int) 1 := ⟨xim_X6_gap, xse_X6_gap, xin_X6, xco_X6_gap, by decide +kernel⟩
set_option maxRecDepth 4000 in
theorem c_X6_gap {l : Launch} {D : va_G} {t : Nat → ClassId} {b : Nat → Nat} {I : Nat → Int32} {F : Nat → Nat → Int32} {K : Cfg} {sd : Int32} {hd : Nat → Nat} {dk : Bool} {dw : Nat → Nat} {mt : Int32} (hI : INV (K, sd, hd, dk, dw, mt)) (hX : RM (K, sd, hd, dk, dw, mt) I F) (x : Int32) : CT l D t yX6_gap cX6_gap 2 (some .int) rX6_gap 0 0 [.ref (b 0), .int x] (WM b t I F) (MO b t (opGap (K, sd, hd, dk, dw, mt) x)) := by
  refine CT.of (by decide +kernel) (by simp [lg_sl, Value.category]) (fun X C hR => ?_)
  refine xlocals (lv' := [(0, .ref (b 0)), (1, .int x)]) rfl ?_
  obtain ⟨hK, hsd, hHd, hdk, hdr⟩ := id hX
  have hW : WFK K := hI.1
  have hrg := hI.2.1
  have fn24 := hW.n24; have fm60 := hW.m60; have fk2 := hW.k2; have fu1 := hW.u1; have fu9 := hW.u9; have fv1 := hW.v1; have fv9 := hW.v9
  refine xiload_n C 1 rfl dX6_gap_0 ?_
  refine xiconst (v := 0) C dX6_gap_1 (by decide) ?_
  refine xsipush (v := 4096) C dX6_gap_2 (by decide) ?_
  refine xcSR C (c_X6_in x 0 4096) sk_X6_in xml_X6_56 ⟨⟨Nat.le_of_ble_eq_true rfl, Nat.le_of_ble_eq_true rfl⟩, ⟨rfl, rfl⟩, ⟨Nat.zero_le _, Nat.zero_le _⟩⟩ rfl (Nat.le_of_ble_eq_true rfl) dX6_gap_5 ?_
  refine xif_neN C 14 dX6_gap_8 (by decide) (bn_lt _) (fun h8 => ?_) (fun h8 => ?_)
  ·
    have hin := bn_1 h8
    obtain ⟨B, _, hb, rfl⟩ := boxN (a := 0) (b := 4096) (by decide) (by decide) (bn_1 h8).1 (bn_1 h8).2
    refine xaload_n C 0 rfl dX6_gap_14 ?_
    refine xcVE C (c_X6_isGood hK hW) yk_X6_isGood 0 rfl rfl xml_X6_64 ⟨⟨Nat.le_of_ble_eq_true rfl, Nat.le_of_ble_eq_true rfl⟩, ⟨rfl, rfl⟩, ⟨Nat.zero_le _, Nat.zero_le _⟩⟩ rfl (Nat.le_of_ble_eq_true rfl) dX6_gap_15 (fun vE wE hE => ?_)
    obtain ⟨rfl, FA, rfl, hXA⟩ := hE
    have hKA : CFG K I FA := hK.of (fun _ _ => rfl) (fun q hq => hXA q (by omega))
    refine xif_eqN C 29 dX6_gap_18 (by decide) (bn_lt _) (fun h18 => ?_) (fun h18 => ?_)
    ·
      refine xbipush (v := -5) C dX6_gap_29 (by decide) ?_
      exact xret C hR (rfl) dX6_gap_31 (MO.mk (by rw [opGap, ci_f (fun q => q.elim hin.1 hin.2), ci_t (bn_0 h18)]) (hX.of (fun _ _ => rfl) (fun q h1 h2 h3 => hXA q h3)))
    ·
      have hn : 0 < kn K := (bn_1 h18).1
      refine xaload_n C 0 rfl dX6_gap_21 ?_
      refine xiload_n C 1 rfl dX6_gap_22 ?_
      refine xcVE C (c_X6_meet hKA hW (bn_1 h18) hn sd hsd B hb) yk_X6_meet 0 rfl rfl xml_X6_135 ⟨⟨Nat.le_of_ble_eq_true rfl, Nat.le_of_ble_eq_true rfl⟩, ⟨rfl, rfl⟩, ⟨Nat.zero_le _, Nat.zero_le _⟩⟩ rfl (Nat.le_of_ble_eq_true rfl) dX6_gap_23 (fun vE wE hE => ?_)
      obtain ⟨rfl, IB, FB, rfl, hIB, _, hXB, _, _⟩ := hE
      have fu23 := cn_le (fun p => itN K sd (hS K) (-nI B) B p ≠ itN K sd (lS K) (-nI B) B p) (kn K)
      refine xgoto C 31 dX6_gap_26 (by decide) ?_
      exact xret C hR (rfl) dX6_gap_31 (MO.mk (by rw [opGap, ci_f (fun q => q.elim hin.1 hin.2), ci_f (fun q => q (bn_1 h18)), show cl (nI B) = B from nI_clamp (by omega)]) ((hX.of (fun _ _ => rfl) (fun q h1 h2 h3 => hXA q h3)).of (fun q hq => hIB q hq) (fun q h1 h2 h3 => hXB q h1 h2)))
  ·
    refine xbipush (v := -2) C dX6_gap_11 (by decide) ?_
    exact xret C hR (rfl) dX6_gap_13 (MO.mk (by rw [opGap, ci_t (nand (bn_0 h8))]) hX)
theorem dX6_far_0 : decode cX6_far 0 = .ok (.iconst 1, 1) := by decide +kernel
theorem dX6_far_1 : decode cX6_far 1 = .ok (.istore_n 1, 1) := by decide +kernel
theorem dX6_far_2 : decode cX6_far 2 = .ok (.iload_n 1, 1) := by decide +kernel
theorem dX6_far_3 : decode cX6_far 3 = .ok (.sipush 4096, 3) := by decide +kernel
theorem dX6_far_6 : decode cX6_far 6 = .ok (.if_icmp .gt 20, 3) := by decide +kernel
theorem dX6_far_9 : decode cX6_far 9 = .ok (.aload_n 0, 1) := by decide +kernel
theorem dX6_far_10 : decode cX6_far 10 = .ok (.iload_n 1, 1) := by decide +kernel
theorem dX6_far_11 : decode cX6_far 11 = .ok (.invokevirtual 135, 3) := by decide +kernel
theorem dX6_far_14 : decode cX6_far 14 = .ok (.ifCond .ne 5, 3) := by decide +kernel
theorem dX6_far_17 : decode cX6_far 17 = .ok (.iload_n 1, 1) := by decide +kernel
theorem dX6_far_18 : decode cX6_far 18 = .ok (.ireturn, 1) := by decide +kernel
theorem dX6_far_19 : decode cX6_far 19 = .ok (.iload_n 1, 1) := by decide +kernel
theorem dX6_far_20 : decode cX6_far 20 = .ok (.iconst 2, 1) := by decide +kernel
theorem dX6_far_21 : decode cX6_far 21 = .ok (.imul, 1) := by decide +kernel
theorem dX6_far_22 : decode cX6_far 22 = .ok (.istore_n 1, 1) := by decide +kernel
theorem dX6_far_23 : decode cX6_far 23 = .ok (.goto (-21), 3) := by decide +kernel
theorem dX6_far_26 : decode cX6_far 26 = .ok (.iconst 0, 1) := by decide +kernel
theorem dX6_far_27 : decode cX6_far 27 = .ok (.ireturn, 1) := by decide +kernel
def rX6_far : Room := { frames := 4, cells := 0, slots := 0, locals := 109 }
theorem yk_X6_far : YK yX6_far cX6_far 2 (some .int) 0 := ⟨xim_X6_far, xse_X6_far, xin_X6, xco_X6_far, by decide +kernel⟩
set_option maxRecDepth 4000 in
theorem c_X6_far {l : Launch} {D : va_G} {t : Nat → ClassId} {b : Nat → Nat} {I : Nat → Int32} {F : Nat → Nat → Int32} {K : Cfg} (hK : CFG K I F) (hW : WFK K) (hg : GoodP K) (hn : 0 < kn K) (sd : Int32) (hsd : I 10 = sd) : CT l D t yX6_far cX6_far 2 (some .int) rX6_far 0 0 [.ref (b 0)] (WM b t I F) (EP (fun v w => ∃ (I' : Nat → Int32) (F' : Nat → Nat → Int32), w = WM b t I' F' ∧ (∀ q, q ≠ 7 → I' q = I q) ∧ (∀ q, q ≠ 8 → q ≠ 9 → F' q = F q) ∧ (∃ g, RA (kn K) (F' 8) g) ∧ ((∃ e, farN K sd = some e ∧ e ≤ 12 ∧ v = .int (nI (2 ^ e)) ∧ I' 7 = mtN K sd (2 ^ e) (2 ^ e) ∧ RA (kn K) (F' 8) (itN K sd (lS K) (-nI (2 ^ e)) (2 ^ e))) ∨ (farN K sd = none ∧ v = .int (nI 0))))) := by
  refine CT.of (by decide +kernel) (by simp [lg_sl, Value.category]) (fun X C hR => ?_)
  refine xlocals (lv' := [(0, .ref (b 0))]) rfl ?_
  have fn24 := hW.n24; have fm60 := hW.m60; have fk2 := hW.k2; have fu1 := hW.u1; have fu9 := hW.u9; have fv1 := hW.v1; have fv9 := hW.v9
  refine xiconst (v := nI 1) C dX6_far_0 (by decide) ?_
  refine xistore_n (lv' := [(1, .int (nI 1)), (0, .ref (b 0))]) C dX6_far_1 (by decide) rfl ?_
  have LP2 : ∀ (fu2 : Nat) (e : Nat) (B : Nat) (IA : Nat → Int32) (FA : Nat → Nat → Int32) (he : e ≤ 13) (hbe : B = 2 ^ e) (hno : ∀ x, x < e → ¬ eqN K sd (2 ^ x)) (hIA : ∀ q, q ≠ 7 → IA q = I q) (hXA : (∀ q, q ≠ 8 → q ≠ 9 → FA q = F q)) (h8A : 1 ≤ e → ∃ g, RA (kn K) (FA 8) g), 13 - e < fu2 → XW X 0 0 (WM b t IA FA) [(0, .ref (b 0)), (1, .int (nI B))] 2 [] := by
    intro fu2
    induction fu2 with
    | zero => intro e B IA FA he hbe hno hIA hXA h8A hm2; exact absurd hm2 (Nat.not_lt_zero _)
    | succ fu2 ih2 =>
      intro e B IA FA he hbe hno hIA hXA h8A hm2
      have hKA : CFG K IA FA := hK.of (fun q hq => hIA q (by omega)) (fun q hq => hXA q (by omega) (by omega))
      have hsA : IA 10 = sd := (hIA 10 (by decide)).trans hsd
      have hbb : B ≤ 8192 := by rw [hbe]; exact (Nat.pow_le_pow_right (by decide) he : 2 ^ e ≤ 2 ^ 13)
      refine xiload_n C 1 rfl dX6_far_2 ?_
      refine xsipush (v := nI 4096) C dX6_far_3 (by decide) ?_
      refine xicmp_gtN C 26 dX6_far_6 (by decide) (by omega) (by omega) (fun h6 => ?_) (fun h6 => ?_)
      ·
        have he13 : e = 13 := far13 he hbe h6
        refine xiconst (v := nI 0) C dX6_far_26 (by decide) ?_
        exact xret C hR (rfl) dX6_far_27 (⟨_, rfl, IA, FA, rfl, hIA, hXA, h8A (by omega), Or.inr ⟨far_none (by rw [← he13]; exact hno), rfl⟩⟩)
      ·
        have he12 : e ≤ 12 := far12 he hbe h6
        refine xaload_n C 0 rfl dX6_far_9 ?_
        refine xiload_n C 1 rfl dX6_far_10 ?_
        refine xcVE C (c_X6_meet hKA hW hg hn sd hsA B (by omega)) yk_X6_meet 0 rfl rfl xml_X6_135 ⟨⟨Nat.le_of_ble_eq_true rfl, Nat.le_of_ble_eq_true rfl⟩, ⟨rfl, rfl⟩, ⟨Nat.zero_le _, Nat.zero_le _⟩⟩ rfl (Nat.le_of_ble_eq_true rfl) dX6_far_11 (fun vE wE hE => ?_)
        obtain ⟨rfl, IB, FB, rfl, hIb, hMb, hXb, hHB, hLB⟩ := hE
        have fu11 := cn_le (fun p => itN K sd (hS K) (-nI B) B p ≠ itN K sd (lS K) (-nI B) B p) (kn K)
        have hIB : ∀ q, q ≠ 7 → IB q = I q := fun q h2 => (hIb q h2).trans (hIA q h2)
        have hXB : (∀ q, q ≠ 8 → q ≠ 9 → FB q = F q) := fun q h1 h2 => (hXb q h1 h2).trans (hXA q h1 h2)
        refine xif_neN C 19 dX6_far_14 (by decide) (by omega) (fun h14 => ?_) (fun h14 => ?_)
        ·
          refine xiload_n C 1 rfl dX6_far_19 ?_
          refine xiconst (v := nI 2) C dX6_far_20 (by decide) ?_
          refine ximulN C dX6_far_21 ?_
          refine xistore_n (lv' := [(1, .int (nI (B * 2))), (0, .ref (b 0))]) C dX6_far_22 (by decide) rfl ?_
          refine xgoto C 2 dX6_far_23 (by decide) ?_
          refine xsub [1, 0] rfl ?_
          exact ih2 (e + 1) (B * 2) IB FB (by omega) (by rw [hbe, Nat.pow_succ]) (lt_s hno (by rw [← hbe]; exact un_n h14)) hIB hXB (fun _ => ⟨_, hHB⟩) (by omega)
        ·
          refine xiload_n C 1 rfl dX6_far_17 ?_
          exact xret C hR (rfl) dX6_far_18 (⟨_, rfl, IB, FB, rfl, hIB, hXB, ⟨_, hHB⟩, Or.inl ⟨e, far_some hno (by rw [← hbe]; exact un_e h14) he12, he12, by rw [hbe], by rw [hMb, hbe]; exact fmN_met (un_e (by rw [← hbe]; exact h14)), by rw [← hbe]; exact (fun p hp => by rw [← un_e h14 p hp]; exact hHB p hp)⟩⟩)
  refine xsub [1, 0] rfl ?_
  exact LP2 _ 0 1 I F (by omega) rfl (fun x h => absurd h (Nat.not_lt_zero _)) (fun q _ => rfl) (fun q _ _ => rfl) (fun h => absurd h (by omega)) (Nat.lt_succ_self _)
theorem dX6_draw_0 : decode cX6_draw 0 = .ok (.aload_n 0, 1) := by decide +kernel
theorem dX6_draw_1 : decode cX6_draw 1 = .ok (.invokevirtual 64, 3) := by decide +kernel
theorem dX6_draw_4 : decode cX6_draw 4 = .ok (.ifCond .ne 6, 3) := by decide +kernel
theorem dX6_draw_7 : decode cX6_draw 7 = .ok (.bipush (-5), 2) := by decide +kernel
theorem dX6_draw_9 : decode cX6_draw 9 = .ok (.ireturn, 1) := by decide +kernel
theorem dX6_draw_10 : decode cX6_draw 10 = .ok (.aload_n 0, 1) := by decide +kernel
theorem dX6_draw_11 : decode cX6_draw 11 = .ok (.invokevirtual 138, 3) := by decide +kernel
theorem dX6_draw_14 : decode cX6_draw 14 = .ok (.istore_n 1, 1) := by decide +kernel
theorem dX6_draw_15 : decode cX6_draw 15 = .ok (.iload_n 1, 1) := by decide +kernel
theorem dX6_draw_16 : decode cX6_draw 16 = .ok (.ifCond .ne 6, 3) := by decide +kernel
theorem dX6_draw_19 : decode cX6_draw 19 = .ok (.bipush (-5), 2) := by decide +kernel
theorem dX6_draw_21 : decode cX6_draw 21 = .ok (.ireturn, 1) := by decide +kernel
theorem dX6_draw_22 : decode cX6_draw 22 = .ok (.aload_n 0, 1) := by decide +kernel
theorem dX6_draw_23 : decode cX6_draw 23 = .ok (.aload_n 0, 1) := by decide +kernel
theorem dX6_draw_24 : decode cX6_draw 24 = .ok (.getfield 41, 3) := by decide +kernel
theorem dX6_draw_27 : decode cX6_draw 27 = .ok (.aload_n 0, 1) := by decide +kernel
theorem dX6_draw_28 : decode cX6_draw 28 = .ok (.getfield 47, 3) := by decide +kernel
theorem dX6_draw_31 : decode cX6_draw 31 = .ok (.invokevirtual 100, 3) := by decide +kernel
theorem dX6_draw_34 : decode cX6_draw 34 = .ok (.aload_n 0, 1) := by decide +kernel
theorem dX6_draw_35 : decode cX6_draw 35 = .ok (.iconst 1, 1) := by decide +kernel
theorem dX6_draw_36 : decode cX6_draw 36 = .ok (.putfield 60, 3) := by decide +kernel
theorem dX6_draw_39 : decode cX6_draw 39 = .ok (.aload_n 0, 1) := by decide +kernel
theorem dX6_draw_40 : decode cX6_draw 40 = .ok (.aload_n 0, 1) := by decide +kernel
theorem dX6_draw_41 : decode cX6_draw 41 = .ok (.getfield 132, 3) := by decide +kernel
theorem dX6_draw_44 : decode cX6_draw 44 = .ok (.putfield 141, 3) := by decide +kernel
theorem dX6_draw_47 : decode cX6_draw 47 = .ok (.iload_n 1, 1) := by decide +kernel
theorem dX6_draw_48 : decode cX6_draw 48 = .ok (.ireturn, 1) := by decide +kernel
def rX6_draw : Room := { frames := 5, cells := 0, slots := 0, locals := 130 }
theorem yk_X6_draw : YK yX6_draw cX6_draw 2 (some .int) 0 := ⟨xim_X6_draw, xse_X6_draw, xin_X6, xco_X6_draw, by decide +kernel⟩
set_option maxRecDepth 4000 in
theorem c_X6_draw {l : Launch} {D : va_G} {t : Nat → ClassId} {b : Nat → Nat} {I : Nat → Int32} {F : Nat → Nat → Int32} {K : Cfg} {sd : Int32} {hd : Nat → Nat} {dk : Bool} {dw : Nat → Nat} {mt : Int32} (hI : INV (K, sd, hd, dk, dw, mt)) (hX : RM (K, sd, hd, dk, dw, mt) I F)  : CT l D t yX6_draw cX6_draw 2 (some .int) rX6_draw 0 0 [.ref (b 0)] (WM b t I F) (MO b t (opDraw (K, sd, hd, dk, dw, mt))) := by
  refine CT.of (by decide +kernel) (by simp [lg_sl, Value.category]) (fun X C hR => ?_)
  refine xlocals (lv' := [(0, .ref (b 0))]) rfl ?_
  obtain ⟨hK, hsd, hHd, hdk, hdr⟩ := id hX
  have hW : WFK K := hI.1
  have hrg := hI.2.1
  have fn24 := hW.n24; have fm60 := hW.m60; have fk2 := hW.k2; have fu1 := hW.u1; have fu9 := hW.u9; have fv1 := hW.v1; have fv9 := hW.v9
  refine xaload_n C 0 rfl dX6_draw_0 ?_
  refine xcVE C (c_X6_isGood hK hW) yk_X6_isGood 0 rfl rfl xml_X6_64 ⟨⟨Nat.le_of_ble_eq_true rfl, Nat.le_of_ble_eq_true rfl⟩, ⟨rfl, rfl⟩, ⟨Nat.zero_le _, Nat.zero_le _⟩⟩ rfl (Nat.le_of_ble_eq_true rfl) dX6_draw_1 (fun vE wE hE => ?_)
  obtain ⟨rfl, FA, rfl, hXA⟩ := hE
  have hKA : CFG K I FA := hK.of (fun _ _ => rfl) (fun q hq => hXA q (by omega))
  refine xif_neN C 10 dX6_draw_4 (by decide) (bn_lt _) (fun h4 => ?_) (fun h4 => ?_)
  ·
    have hn : 0 < kn K := (bn_1 h4).1
    refine xaload_n C 0 rfl dX6_draw_10 ?_
    refine xcVE C (c_X6_far hKA hW (bn_1 h4) hn sd hsd) yk_X6_far 0 rfl rfl xml_X6_138 ⟨⟨Nat.le_of_ble_eq_true rfl, Nat.le_of_ble_eq_true rfl⟩, ⟨rfl, rfl⟩, ⟨Nat.zero_le _, Nat.zero_le _⟩⟩ rfl (Nat.le_of_ble_eq_true rfl) dX6_draw_11 (fun vE wE hE => ?_)
    obtain ⟨IB, FB, rfl, hIB, hXB, ⟨g8, hg8⟩, hor⟩ := hE
    rcases hor with ⟨e, hfar, he12, rfl, h7B, hHB⟩ | ⟨hfar, rfl⟩
    ·
      have hpe : 0 < 2 ^ e ∧ 2 ^ e ≤ 4096 := ⟨Nat.pow_pos (by decide), (Nat.pow_le_pow_right (by decide) he12 : 2 ^ e ≤ 2 ^ 12)⟩
      have hKB : CFG K IB FB := hKA.of (fun q hq => hIB q (by omega)) (fun q hq => hXB q (by omega) (by omega))
      refine xistore_n (lv' := [(1, .int (nI (2 ^ e))), (0, .ref (b 0))]) C dX6_draw_14 (by decide) rfl ?_
      refine xiload_n C 0 rfl dX6_draw_15 ?_
      refine xif_neN C 22 dX6_draw_16 (by decide) (by omega) (fun h16 => ?_) (fun h16 => ?_)
      ·
        refine xaload_n C 1 rfl dX6_draw_22 ?_
        refine xaload_n C 1 rfl dX6_draw_23 ?_
        refine gX6_41 C dX6_draw_24 ?_
        refine xaload_n C 1 rfl dX6_draw_27 ?_
        refine gX6_47 C dX6_draw_28 ?_
        refine xcVV C (c_X6_copy hKB hW 8 10 (by decide) (by decide) (by decide) (by decide) (by decide)) yk_X6_copy 0 rfl rfl xml_X6_100 ⟨⟨Nat.le_of_ble_eq_true rfl, Nat.le_of_ble_eq_true rfl⟩, ⟨rfl, rfl⟩, ⟨Nat.zero_le _, Nat.zero_le _⟩⟩ rfl (Nat.le_of_ble_eq_true rfl) dX6_draw_31 (fun wE hE => ?_)
        obtain ⟨FC, rfl, hFC, hFc⟩ := hE
        refine xaload_n C 1 rfl dX6_draw_34 ?_
        refine xiconst (v := nI 1) C dX6_draw_35 (by decide) ?_
        refine pX6_60 C (by decide +kernel) (by decide +kernel) dX6_draw_36 ?_
        refine xaload_n C 1 rfl dX6_draw_39 ?_
        refine xaload_n C 1 rfl dX6_draw_40 ?_
        refine gX6_132 C dX6_draw_41 ?_
        refine pX6_141 C dX6_draw_44 ?_
        refine xiload_n C 0 rfl dX6_draw_47 ?_
        exact xret C hR (rfl) dX6_draw_48 (MO.mk (by rw [opDraw, ci_f (fun q => q (bn_1 h4)), hfar]) (RM.draw ((hX.of (fun _ _ => rfl) (fun q h1 h2 h3 => hXA q h3)).of hIB (fun q h1 h2 h3 => hXB q h1 h2)) h7B hHB hFC hFc))
      · exact absurd h16 (by omega)
    ·
      have hKB : CFG K IB FB := hKA.of (fun q hq => hIB q (by omega)) (fun q hq => hXB q (by omega) (by omega))
      refine xistore_n (lv' := [(1, .int (nI 0)), (0, .ref (b 0))]) C dX6_draw_14 (by decide) rfl ?_
      refine xiload_n C 0 rfl dX6_draw_15 ?_
      refine xif_neN C 22 dX6_draw_16 (by decide) (by omega) (fun h16 => ?_) (fun h16 => ?_)
      · exact absurd rfl h16
      ·
        refine xbipush (v := -5) C dX6_draw_19 (by decide) ?_
        exact xret C hR (rfl) dX6_draw_21 (MO.mk (by rw [opDraw, ci_f (fun q => q (bn_1 h4)), hfar]) ((hX.of (fun _ _ => rfl) (fun q h1 h2 h3 => hXA q h3)).of hIB (fun q h1 h2 h3 => hXB q h1 h2)))
  ·
    refine xbipush (v := -5) C dX6_draw_7 (by decide) ?_
    exact xret C hR (rfl) dX6_draw_9 (MO.mk (by rw [opDraw, ci_t (bn_0 h4)]) (hX.of (fun _ _ => rfl) (fun q h1 h2 h3 => hXA q h3)))
theorem dX6_drawn_0 : decode cX6_drawn 0 = .ok (.aload_n 0, 1) := by decide +kernel
theorem dX6_drawn_1 : decode cX6_drawn 1 = .ok (.iload_n 1, 1) := by decide +kernel
theorem dX6_drawn_2 : decode cX6_drawn 2 = .ok (.invokevirtual 75, 3) := by decide +kernel
theorem dX6_drawn_5 : decode cX6_drawn 5 = .ok (.ifCond .ne 7, 3) := by decide +kernel
theorem dX6_drawn_8 : decode cX6_drawn 8 = .ok (.iconst (-1), 1) := by decide +kernel
theorem dX6_drawn_9 : decode cX6_drawn 9 = .ok (.goto 21, 3) := by decide +kernel
theorem dX6_drawn_12 : decode cX6_drawn 12 = .ok (.aload_n 0, 1) := by decide +kernel
theorem dX6_drawn_13 : decode cX6_drawn 13 = .ok (.getfield 60, 3) := by decide +kernel
theorem dX6_drawn_16 : decode cX6_drawn 16 = .ok (.ifCond .eq 12, 3) := by decide +kernel
theorem dX6_drawn_19 : decode cX6_drawn 19 = .ok (.aload_n 0, 1) := by decide +kernel
theorem dX6_drawn_20 : decode cX6_drawn 20 = .ok (.getfield 47, 3) := by decide +kernel
theorem dX6_drawn_23 : decode cX6_drawn 23 = .ok (.iload_n 1, 1) := by decide +kernel
theorem dX6_drawn_24 : decode cX6_drawn 24 = .ok (.iaload, 1) := by decide +kernel
theorem dX6_drawn_25 : decode cX6_drawn 25 = .ok (.goto 5, 3) := by decide +kernel
theorem dX6_drawn_28 : decode cX6_drawn 28 = .ok (.bipush (-3), 2) := by decide +kernel
theorem dX6_drawn_30 : decode cX6_drawn 30 = .ok (.ireturn, 1) := by decide +kernel
def rX6_drawn : Room := { frames := 2, cells := 0, slots := 0, locals := 43 }
theorem yk_X6_drawn : YK yX6_drawn cX6_drawn 2 (some .int) 1 := ⟨xim_X6_drawn, xse_X6_drawn, xin_X6, xco_X6_drawn, by decide +kernel⟩
set_option maxRecDepth 4000 in
theorem c_X6_drawn {l : Launch} {D : va_G} {t : Nat → ClassId} {b : Nat → Nat} {I : Nat → Int32} {F : Nat → Nat → Int32} {K : Cfg} {sd : Int32} {hd : Nat → Nat} {dk : Bool} {dw : Nat → Nat} {mt : Int32} (hI : INV (K, sd, hd, dk, dw, mt)) (hX : RM (K, sd, hd, dk, dw, mt) I F) (x : Int32) : CT l D t yX6_drawn cX6_drawn 2 (some .int) rX6_drawn 0 0 [.ref (b 0), .int x] (WM b t I F) (MO b t (opDrawn (K, sd, hd, dk, dw, mt) x)) := by
  refine CT.of (by decide +kernel) (by simp [lg_sl, Value.category]) (fun X C hR => ?_)
  refine xlocals (lv' := [(0, .ref (b 0)), (1, .int x)]) rfl ?_
  obtain ⟨hK, hsd, hHd, hdk, hdr⟩ := id hX
  have hW : WFK K := hI.1
  have hrg := hI.2.1
  have fn24 := hW.n24; have fm60 := hW.m60; have fk2 := hW.k2; have fu1 := hW.u1; have fu9 := hW.u9; have fv1 := hW.v1; have fv9 := hW.v9
  refine xaload_n C 0 rfl dX6_drawn_0 ?_
  refine xiload_n C 1 rfl dX6_drawn_1 ?_
  refine xcVR C (c_X6_isPlace hK hW x) yk_X6_isPlace 0 rfl rfl xml_X6_75 ⟨⟨Nat.le_of_ble_eq_true rfl, Nat.le_of_ble_eq_true rfl⟩, ⟨rfl, rfl⟩, ⟨Nat.zero_le _, Nat.zero_le _⟩⟩ rfl (Nat.le_of_ble_eq_true rfl) dX6_drawn_2 ?_
  refine xif_neN C 12 dX6_drawn_5 (by decide) (bn_lt _) (fun h5 => ?_) (fun h5 => ?_)
  ·
    obtain ⟨p, hp, rfl⟩ := (bn_1 h5).nat hW
    refine xaload_n C 0 rfl dX6_drawn_12 ?_
    refine gX6_60 C dX6_drawn_13 ?_
    refine xtopi (y := nI (dkN dk)) (hdk) ?_
    have hdl := dkN_le dk
    refine xif_eqN C 28 dX6_drawn_16 (by decide) (by omega) (fun h16 => ?_) (fun h16 => ?_)
    ·
      refine xbipush (v := -3) C dX6_drawn_28 (by decide) ?_
      exact xret C hR (rfl) dX6_drawn_30 (MO.mk (by rw [opDrawn, ci_f (fun q => q (hasP_nat hW hp)), ci_t (dk0 h16)]) hX)
    ·
      have hdw := (hdr (dk1 h16)).1
      refine xaload_n C 0 rfl dX6_drawn_19 ?_
      refine gX6_47 C dX6_drawn_20 ?_
      refine xiload_n C 1 rfl dX6_drawn_23 ?_
      refine ma_st C hW 10 (by decide) (by decide) hdw p (by omega) dX6_drawn_24 ?_
      have fb24 := (hdw p (by omega)).2
      refine xgoto C 30 dX6_drawn_25 (by decide) ?_
      exact xret C hR (rfl) dX6_drawn_30 (MO.mk (by rw [opDrawn, ci_f (fun q => q (hasP_nat hW hp)), ci_f (by rw [dk1 h16]; decide), show cl (nI p) = p from nI_clamp (by omega)]) hX)
  ·
    have h5 := bn_0 h5
    refine xiconst (v := -1) C dX6_drawn_8 (by decide) ?_
    refine xgoto C 30 dX6_drawn_9 (by decide) ?_
    exact xret C hR (rfl) dX6_drawn_30 (MO.mk (by rw [opDrawn, ci_t h5]) hX)
theorem dX6_met_0 : decode cX6_met 0 = .ok (.aload_n 0, 1) := by decide +kernel
theorem dX6_met_1 : decode cX6_met 1 = .ok (.getfield 60, 3) := by decide +kernel
theorem dX6_met_4 : decode cX6_met 4 = .ok (.ifCond .eq 10, 3) := by decide +kernel
theorem dX6_met_7 : decode cX6_met 7 = .ok (.aload_n 0, 1) := by decide +kernel
theorem dX6_met_8 : decode cX6_met 8 = .ok (.getfield 141, 3) := by decide +kernel
theorem dX6_met_11 : decode cX6_met 11 = .ok (.goto 4, 3) := by decide +kernel
theorem dX6_met_14 : decode cX6_met 14 = .ok (.iconst 1, 1) := by decide +kernel
theorem dX6_met_15 : decode cX6_met 15 = .ok (.ireturn, 1) := by decide +kernel
def rX6_met : Room := { frames := 0, cells := 0, slots := 0, locals := 0 }
theorem yk_X6_met : YK yX6_met cX6_met 1 (some .int) 0 := ⟨xim_X6_met, xse_X6_met, xin_X6, xco_X6_met, by decide +kernel⟩
set_option maxRecDepth 4000 in
theorem c_X6_met {l : Launch} {D : va_G} {t : Nat → ClassId} {b : Nat → Nat} {I : Nat → Int32} {F : Nat → Nat → Int32} {K : Cfg} {sd : Int32} {hd : Nat → Nat} {dk : Bool} {dw : Nat → Nat} {mt : Int32} (hI : INV (K, sd, hd, dk, dw, mt)) (hX : RM (K, sd, hd, dk, dw, mt) I F)  : CT l D t yX6_met cX6_met 1 (some .int) rX6_met 0 0 [.ref (b 0)] (WM b t I F) (MO b t (opMet (K, sd, hd, dk, dw, mt))) := by
  refine CT.of (by decide +kernel) (by simp [lg_sl, Value.category]) (fun X C hR => ?_)
  refine xlocals (lv' := [(0, .ref (b 0))]) rfl ?_
  obtain ⟨hK, hsd, hHd, hdk, hdr⟩ := id hX
  have hW : WFK K := hI.1
  have hrg := hI.2.1
  have fn24 := hW.n24; have fm60 := hW.m60; have fk2 := hW.k2; have fu1 := hW.u1; have fu9 := hW.u9; have fv1 := hW.v1; have fv9 := hW.v9
  refine xaload_n C 0 rfl dX6_met_0 ?_
  refine gX6_60 C dX6_met_1 ?_
  refine xtopi (y := nI (dkN dk)) (hdk) ?_
  have hdl := dkN_le dk
  refine xif_eqN C 14 dX6_met_4 (by decide) (by omega) (fun h4 => ?_) (fun h4 => ?_)
  ·
    refine xiconst (v := nI 1) C dX6_met_14 (by decide) ?_
    exact xret C hR (rfl) dX6_met_15 (MO.mk (by rw [opMet, ci_t (dk0 h4), nI_one]) hX)
  ·
    refine xaload_n C 0 rfl dX6_met_7 ?_
    refine gX6_141 C dX6_met_8 ?_
    refine xtopi (y := mt) ((hdr (dk1 h4)).2) ?_
    refine xgoto C 15 dX6_met_11 (by decide) ?_
    exact xret C hR (rfl) dX6_met_15 (MO.mk (by rw [opMet, ci_f (by rw [dk1 h4]; decide)]) hX)
theorem dX6_tally_0 : decode cX6_tally 0 = .ok (.aload_n 0, 1) := by decide +kernel
theorem dX6_tally_1 : decode cX6_tally 1 = .ok (.iload_n 1, 1) := by decide +kernel
theorem dX6_tally_2 : decode cX6_tally 2 = .ok (.invokevirtual 75, 3) := by decide +kernel
theorem dX6_tally_5 : decode cX6_tally 5 = .ok (.ifCond .ne 5, 3) := by decide +kernel
theorem dX6_tally_8 : decode cX6_tally 8 = .ok (.iconst (-1), 1) := by decide +kernel
theorem dX6_tally_9 : decode cX6_tally 9 = .ok (.ireturn, 1) := by decide +kernel
theorem dX6_tally_10 : decode cX6_tally 10 = .ok (.iload_n 3, 1) := by decide +kernel
theorem dX6_tally_11 : decode cX6_tally 11 = .ok (.iconst 1, 1) := by decide +kernel
theorem dX6_tally_12 : decode cX6_tally 12 = .ok (.bipush 8, 2) := by decide +kernel
theorem dX6_tally_14 : decode cX6_tally 14 = .ok (.invokestatic 56, 3) := by decide +kernel
theorem dX6_tally_17 : decode cX6_tally 17 = .ok (.ifCond .ne 6, 3) := by decide +kernel
theorem dX6_tally_20 : decode cX6_tally 20 = .ok (.bipush (-2), 2) := by decide +kernel
theorem dX6_tally_22 : decode cX6_tally 22 = .ok (.ireturn, 1) := by decide +kernel
theorem dX6_tally_23 : decode cX6_tally 23 = .ok (.aload_n 0, 1) := by decide +kernel
theorem dX6_tally_24 : decode cX6_tally 24 = .ok (.invokevirtual 64, 3) := by decide +kernel
theorem dX6_tally_27 : decode cX6_tally 27 = .ok (.ifCond .ne 6, 3) := by decide +kernel
theorem dX6_tally_30 : decode cX6_tally 30 = .ok (.bipush (-5), 2) := by decide +kernel
theorem dX6_tally_32 : decode cX6_tally 32 = .ok (.ireturn, 1) := by decide +kernel
theorem dX6_tally_33 : decode cX6_tally 33 = .ok (.aload_n 0, 1) := by decide +kernel
theorem dX6_tally_34 : decode cX6_tally 34 = .ok (.getfield 104, 3) := by decide +kernel
theorem dX6_tally_37 : decode cX6_tally 37 = .ok (.istore 4, 2) := by decide +kernel
theorem dX6_tally_39 : decode cX6_tally 39 = .ok (.iconst 0, 1) := by decide +kernel
theorem dX6_tally_40 : decode cX6_tally 40 = .ok (.istore 5, 2) := by decide +kernel
theorem dX6_tally_42 : decode cX6_tally 42 = .ok (.iconst 1, 1) := by decide +kernel
theorem dX6_tally_43 : decode cX6_tally 43 = .ok (.istore 6, 2) := by decide +kernel
theorem dX6_tally_45 : decode cX6_tally 45 = .ok (.iconst 0, 1) := by decide +kernel
theorem dX6_tally_46 : decode cX6_tally 46 = .ok (.istore 7, 2) := by decide +kernel
theorem dX6_tally_48 : decode cX6_tally 48 = .ok (.iload 7, 2) := by decide +kernel
theorem dX6_tally_50 : decode cX6_tally 50 = .ok (.iload_n 3, 1) := by decide +kernel
theorem dX6_tally_51 : decode cX6_tally 51 = .ok (.if_icmp .ge 47, 3) := by decide +kernel
theorem dX6_tally_54 : decode cX6_tally 54 = .ok (.iload 6, 2) := by decide +kernel
theorem dX6_tally_56 : decode cX6_tally 56 = .ok (.ifCond .eq 42, 3) := by decide +kernel
theorem dX6_tally_59 : decode cX6_tally 59 = .ok (.aload_n 0, 1) := by decide +kernel
theorem dX6_tally_60 : decode cX6_tally 60 = .ok (.iload_n 2, 1) := by decide +kernel
theorem dX6_tally_61 : decode cX6_tally 61 = .ok (.iload 7, 2) := by decide +kernel
theorem dX6_tally_63 : decode cX6_tally 63 = .ok (.iadd, 1) := by decide +kernel
theorem dX6_tally_64 : decode cX6_tally 64 = .ok (.putfield 104, 3) := by decide +kernel
theorem dX6_tally_67 : decode cX6_tally 67 = .ok (.aload_n 0, 1) := by decide +kernel
theorem dX6_tally_68 : decode cX6_tally 68 = .ok (.invokevirtual 138, 3) := by decide +kernel
theorem dX6_tally_71 : decode cX6_tally 71 = .ok (.ifCond .le 7, 3) := by decide +kernel
theorem dX6_tally_74 : decode cX6_tally 74 = .ok (.iconst 1, 1) := by decide +kernel
theorem dX6_tally_75 : decode cX6_tally 75 = .ok (.goto 4, 3) := by decide +kernel
theorem dX6_tally_78 : decode cX6_tally 78 = .ok (.iconst 0, 1) := by decide +kernel
theorem dX6_tally_79 : decode cX6_tally 79 = .ok (.istore 6, 2) := by decide +kernel
theorem dX6_tally_81 : decode cX6_tally 81 = .ok (.iload 5, 2) := by decide +kernel
theorem dX6_tally_83 : decode cX6_tally 83 = .ok (.aload_n 0, 1) := by decide +kernel
theorem dX6_tally_84 : decode cX6_tally 84 = .ok (.getfield 41, 3) := by decide +kernel
theorem dX6_tally_87 : decode cX6_tally 87 = .ok (.iload_n 1, 1) := by decide +kernel
theorem dX6_tally_88 : decode cX6_tally 88 = .ok (.iaload, 1) := by decide +kernel
theorem dX6_tally_89 : decode cX6_tally 89 = .ok (.iadd, 1) := by decide +kernel
theorem dX6_tally_90 : decode cX6_tally 90 = .ok (.istore 5, 2) := by decide +kernel
theorem dX6_tally_92 : decode cX6_tally 92 = .ok (.iinc 7 1, 3) := by decide +kernel
theorem dX6_tally_95 : decode cX6_tally 95 = .ok (.goto (-47), 3) := by decide +kernel
theorem dX6_tally_98 : decode cX6_tally 98 = .ok (.aload_n 0, 1) := by decide +kernel
theorem dX6_tally_99 : decode cX6_tally 99 = .ok (.iload 4, 2) := by decide +kernel
theorem dX6_tally_101 : decode cX6_tally 101 = .ok (.putfield 104, 3) := by decide +kernel
theorem dX6_tally_104 : decode cX6_tally 104 = .ok (.iload 6, 2) := by decide +kernel
theorem dX6_tally_106 : decode cX6_tally 106 = .ok (.ifCond .eq 8, 3) := by decide +kernel
theorem dX6_tally_109 : decode cX6_tally 109 = .ok (.iload 5, 2) := by decide +kernel
theorem dX6_tally_111 : decode cX6_tally 111 = .ok (.goto 5, 3) := by decide +kernel
theorem dX6_tally_114 : decode cX6_tally 114 = .ok (.bipush (-5), 2) := by decide +kernel
theorem dX6_tally_116 : decode cX6_tally 116 = .ok (.ireturn, 1) := by decide +kernel
def rX6_tally : Room := { frames := 5, cells := 0, slots := 0, locals := 130 }
theorem yk_X6_tally : YK yX6_tally cX6_tally 8 (some .int) 3 := ⟨xim_X6_tally, xse_X6_tally, xin_X6, xco_X6_tally, by decide +kernel⟩
set_option maxRecDepth 4000 in
theorem c_X6_tally {l : Launch} {D : va_G} {t : Nat → ClassId} {b : Nat → Nat} {I : Nat → Int32} {F : Nat → Nat → Int32} {K : Cfg} {sd : Int32} {hd : Nat → Nat} {dk : Bool} {dw : Nat → Nat} {mt : Int32} (hI : INV (K, sd, hd, dk, dw, mt)) (hX : RM (K, sd, hd, dk, dw, mt) I F) (x y z : Int32) : CT l D t yX6_tally cX6_tally 8 (some .int) rX6_tally 0 0 [.ref (b 0), .int x, .int y, .int z] (WM b t I F) (MO b t (opTally (K, sd, hd, dk, dw, mt) x y z)) := by
  refine CT.of (by decide +kernel) (by simp [lg_sl, Value.category]) (fun X C hR => ?_)
  refine xlocals (lv' := [(0, .ref (b 0)), (1, .int x), (2, .int y), (3, .int z)]) rfl ?_
  obtain ⟨hK, hsd, hHd, hdk, hdr⟩ := id hX
  have hW : WFK K := hI.1
  have hrg := hI.2.1
  have fn24 := hW.n24; have fm60 := hW.m60; have fk2 := hW.k2; have fu1 := hW.u1; have fu9 := hW.u9; have fv1 := hW.v1; have fv9 := hW.v9
  refine xaload_n C 0 rfl dX6_tally_0 ?_
  refine xiload_n C 1 rfl dX6_tally_1 ?_
  refine xcVR C (c_X6_isPlace hK hW x) yk_X6_isPlace 0 rfl rfl xml_X6_75 ⟨⟨Nat.le_of_ble_eq_true rfl, Nat.le_of_ble_eq_true rfl⟩, ⟨rfl, rfl⟩, ⟨Nat.zero_le _, Nat.zero_le _⟩⟩ rfl (Nat.le_of_ble_eq_true rfl) dX6_tally_2 ?_
  refine xif_neN C 10 dX6_tally_5 (by decide) (bn_lt _) (fun h5 => ?_) (fun h5 => ?_)
  ·
    obtain ⟨p, hp, rfl⟩ := (bn_1 h5).nat hW
    refine xiload_n C 3 rfl dX6_tally_10 ?_
    refine xiconst (v := 1) C dX6_tally_11 (by decide) ?_
    refine xbipush (v := 8) C dX6_tally_12 (by decide) ?_
    refine xcSR C (c_X6_in z 1 8) sk_X6_in xml_X6_56 ⟨⟨Nat.le_of_ble_eq_true rfl, Nat.le_of_ble_eq_true rfl⟩, ⟨rfl, rfl⟩, ⟨Nat.zero_le _, Nat.zero_le _⟩⟩ rfl (Nat.le_of_ble_eq_true rfl) dX6_tally_14 ?_
    refine xif_neN C 23 dX6_tally_17 (by decide) (bn_lt _) (fun h17 => ?_) (fun h17 => ?_)
    ·
      have hin := bn_1 h17
      obtain ⟨n, hn1, hn8, rfl⟩ := box18 (bn_1 h17).1 (bn_1 h17).2
      refine xaload_n C 0 rfl dX6_tally_23 ?_
      refine xcVE C (c_X6_isGood hK hW) yk_X6_isGood 0 rfl rfl xml_X6_64 ⟨⟨Nat.le_of_ble_eq_true rfl, Nat.le_of_ble_eq_true rfl⟩, ⟨rfl, rfl⟩, ⟨Nat.zero_le _, Nat.zero_le _⟩⟩ rfl (Nat.le_of_ble_eq_true rfl) dX6_tally_24 (fun vE wE hE => ?_)
      obtain ⟨rfl, FA, rfl, hXA⟩ := hE
      have hKA : CFG K I FA := hK.of (fun _ _ => rfl) (fun q hq => hXA q (by omega))
      refine xif_neN C 33 dX6_tally_27 (by decide) (bn_lt _) (fun h27 => ?_) (fun h27 => ?_)
      ·
        have hn : 0 < kn K := (bn_1 h27).1
        refine xaload_n C 0 rfl dX6_tally_33 ?_
        refine gX6_104 C dX6_tally_34 ?_
        refine xtopi (y := sd) (hsd) ?_
        refine xistore (lv' := [(4, .int sd), (0, .ref (b 0)), (1, .int (nI p)), (2, .int y), (3, .int (nI n))]) C dX6_tally_37 (by decide) rfl ?_
        refine xiconst (v := nI 0) C dX6_tally_39 (by decide) ?_
        refine xistore (lv' := [(5, .int (nI 0)), (4, .int sd), (0, .ref (b 0)), (1, .int (nI p)), (2, .int y), (3, .int (nI n))]) C dX6_tally_40 (by decide) rfl ?_
        refine xiconst (v := nI 1) C dX6_tally_42 (by decide) ?_
        refine xistore (lv' := [(6, .int (nI 1)), (5, .int (nI 0)), (4, .int sd), (0, .ref (b 0)), (1, .int (nI p)), (2, .int y), (3, .int (nI n))]) C dX6_tally_43 (by decide) rfl ?_
        refine xiconst (v := nI 0) C dX6_tally_45 (by decide) ?_
        refine xistore (lv' := [(7, .int (nI 0)), (6, .int (nI 1)), (5, .int (nI 0)), (4, .int sd), (0, .ref (b 0)), (1, .int (nI p)), (2, .int y), (3, .int (nI n))]) C dX6_tally_46 (by decide) rfl ?_
        have LP48 : ∀ (fu48 : Nat) (i : Nat) (mf : Nat) (c : Nat) (ID : Nat → Int32) (FD : Nat → Nat → Int32) (hi : i ≤ n) (hst : tlS K y p i mf c) (hID : ∀ q, q ≠ 7 → q ≠ 10 → ID q = I q) (hXD : (∀ q, q ≠ 8 → q ≠ 9 → FD q = FA q)), n - i < fu48 → XW X 0 0 (WM b t ID FD) [(0, .ref (b 0)), (1, .int (nI p)), (2, .int y), (3, .int (nI n)), (4, .int sd), (5, .int (nI c)), (6, .int (nI mf)), (7, .int (nI i))] 48 [] := by
          intro fu48
          induction fu48 with
          | zero => intro i mf c ID FD hi hst hID hXD hm48; exact absurd hm48 (Nat.not_lt_zero _)
          | succ fu48 ih48 =>
            intro i mf c ID FD hi hst hID hXD hm48
            have hKD : CFG K ID FD := hKA.of (fun q hq => hID q (by omega) (by omega)) (fun q hq => hXD q (by omega) (by omega))
            have hmf := hst.1
            refine xiload C 7 rfl dX6_tally_48 ?_
            refine xiload_n C 3 rfl dX6_tally_50 ?_
            refine xicmp_geN C 98 dX6_tally_51 (by decide) (by omega) (by omega) (fun h51 => ?_) (fun h51 => ?_)
            ·
              refine xaload_n C 0 rfl dX6_tally_98 ?_
              refine xiload C 4 rfl dX6_tally_99 ?_
              refine pX6_104 C dX6_tally_101 ?_
              obtain ⟨IZ, eIZ⟩ : ∃ z : Nat → Int32, z = va_up ID 10 sd := ⟨_, rfl⟩
              refine xworld (ws' := WM b t IZ FD) (by rw [eIZ]) ?_
              have hIC : ∀ q, q ≠ 7 → IZ q = I q := fun q hq => by rw [eIZ]; by_cases e : q = 10; (subst e; rw [va_up_self]; exact hsd.symm); (rw [va_up_ne _ _ e]; exact hID q hq e)
              have hsC : IZ 10 = sd := by rw [eIZ, va_up_self]
              have hXC := hXD
              have hie : mf = 0 ∨ i = n := Or.inr (by omega)
              refine xiload C 6 rfl dX6_tally_104 ?_
              refine xif_eqN C 114 dX6_tally_106 (by decide) (by omega) (fun h106 => ?_) (fun h106 => ?_)
              ·
                refine xbipush (v := -5) C dX6_tally_114 (by decide) ?_
                exact xret C hR (rfl) dX6_tally_116 (MO.mk (by rw [opTally, ci_f (fun q => q (hasP_nat hW hp)), ci_f (fun q => q.elim hin.1 hin.2), ci_f (fun q => q (bn_1 h27)), show cl (nI p) = p from nI_clamp (by omega), show cl (nI n) = n from nI_clamp (by omega), tlS_none hst h106 hi]) (RM.tally (hX.of (fun _ _ => rfl) (fun q h1 h2 h3 => hXA q h3)) hIC hXC hsC))
              ·
                refine xiload C 5 rfl dX6_tally_109 ?_
                refine xgoto C 116 dX6_tally_111 (by decide) ?_
                exact xret C hR (rfl) dX6_tally_116 (MO.mk (by rw [opTally, ci_f (fun q => q (hasP_nat hW hp)), ci_f (fun q => q.elim hin.1 hin.2), ci_f (fun q => q (bn_1 h27)), show cl (nI p) = p from nI_clamp (by omega), show cl (nI n) = n from nI_clamp (by omega), tlS_some hst h106 hie]) (RM.tally (hX.of (fun _ _ => rfl) (fun q h1 h2 h3 => hXA q h3)) hIC hXC hsC))
            ·
              refine xiload C 6 rfl dX6_tally_54 ?_
              refine xif_eqN C 98 dX6_tally_56 (by decide) (by omega) (fun h56 => ?_) (fun h56 => ?_)
              ·
                refine xaload_n C 0 rfl dX6_tally_98 ?_
                refine xiload C 4 rfl dX6_tally_99 ?_
                refine pX6_104 C dX6_tally_101 ?_
                obtain ⟨IZ, eIZ⟩ : ∃ z : Nat → Int32, z = va_up ID 10 sd := ⟨_, rfl⟩
                refine xworld (ws' := WM b t IZ FD) (by rw [eIZ]) ?_
                have hIC : ∀ q, q ≠ 7 → IZ q = I q := fun q hq => by rw [eIZ]; by_cases e : q = 10; (subst e; rw [va_up_self]; exact hsd.symm); (rw [va_up_ne _ _ e]; exact hID q hq e)
                have hsC : IZ 10 = sd := by rw [eIZ, va_up_self]
                have hXC := hXD
                have hie : mf = 0 ∨ i = n := Or.inl h56
                refine xiload C 6 rfl dX6_tally_104 ?_
                refine xif_eqN C 114 dX6_tally_106 (by decide) (by omega) (fun h106 => ?_) (fun h106 => ?_)
                ·
                  refine xbipush (v := -5) C dX6_tally_114 (by decide) ?_
                  exact xret C hR (rfl) dX6_tally_116 (MO.mk (by rw [opTally, ci_f (fun q => q (hasP_nat hW hp)), ci_f (fun q => q.elim hin.1 hin.2), ci_f (fun q => q (bn_1 h27)), show cl (nI p) = p from nI_clamp (by omega), show cl (nI n) = n from nI_clamp (by omega), tlS_none hst h106 hi]) (RM.tally (hX.of (fun _ _ => rfl) (fun q h1 h2 h3 => hXA q h3)) hIC hXC hsC))
                ·
                  refine xiload C 5 rfl dX6_tally_109 ?_
                  refine xgoto C 116 dX6_tally_111 (by decide) ?_
                  exact xret C hR (rfl) dX6_tally_116 (MO.mk (by rw [opTally, ci_f (fun q => q (hasP_nat hW hp)), ci_f (fun q => q.elim hin.1 hin.2), ci_f (fun q => q (bn_1 h27)), show cl (nI p) = p from nI_clamp (by omega), show cl (nI n) = n from nI_clamp (by omega), tlS_some hst h106 hie]) (RM.tally (hX.of (fun _ _ => rfl) (fun q h1 h2 h3 => hXA q h3)) hIC hXC hsC))
              ·
                refine xaload_n C 0 rfl dX6_tally_59 ?_
                refine xiload_n C 2 rfl dX6_tally_60 ?_
                refine xiload C 7 rfl dX6_tally_61 ?_
                refine xiadd C dX6_tally_63 ?_
                refine pX6_104 C dX6_tally_64 ?_
                have hKE : CFG K (va_up ID 10 (y + nI i)) FD := hKD.upI (by omega) _
                refine xaload_n C 0 rfl dX6_tally_67 ?_
                refine xcVE C (c_X6_far hKE hW (bn_1 h27) hn (y + nI i) (va_up_self _ _ _)) yk_X6_far 0 rfl rfl xml_X6_138 ⟨⟨Nat.le_of_ble_eq_true rfl, Nat.le_of_ble_eq_true rfl⟩, ⟨rfl, rfl⟩, ⟨Nat.zero_le _, Nat.zero_le _⟩⟩ rfl (Nat.le_of_ble_eq_true rfl) dX6_tally_68 (fun vE wE hE => ?_)
                obtain ⟨IB, FB, rfl, hIB, hXB, ⟨g8, hg8⟩, hor⟩ := hE
                rcases hor with ⟨e, hfar, he12, rfl, h7B, hHB⟩ | ⟨hfar, rfl⟩
                ·
                  have hXC : (∀ q, q ≠ 8 → q ≠ 9 → FB q = FA q) := fun q h1 h2 => (hXB q h1 h2).trans (hXD q h1 h2)
                  have hIC : ∀ q, q ≠ 7 → q ≠ 10 → IB q = I q := fun q h1 h2 => (hIB q h1).trans ((va_up_ne _ _ h2).trans (hID q h1 h2))
                  have hpe : 0 < 2 ^ e ∧ 2 ^ e ≤ 4096 := ⟨Nat.pow_pos (by decide), (Nat.pow_le_pow_right (by decide) he12 : 2 ^ e ≤ 2 ^ 12)⟩
                  have hKB : CFG K IB FB := hKA.of (fun q hq => hIC q (by omega) (by omega)) (fun q hq => hXC q (by omega) (by omega))
                  refine xif_leN C 78 dX6_tally_71 (by decide) (by omega) (fun h71 => ?_) (fun h71 => ?_)
                  · exact absurd h71 (by omega)
                  ·
                    refine xiconst (v := nI 1) C dX6_tally_74 (by decide) ?_
                    refine xgoto C 79 dX6_tally_75 (by decide) ?_
                    refine xistore (lv' := [(6, .int (nI 1)), (0, .ref (b 0)), (1, .int (nI p)), (2, .int y), (3, .int (nI n)), (4, .int sd), (5, .int (nI c)), (7, .int (nI i))]) C dX6_tally_79 (by decide) rfl ?_
                    refine xiload C 6 rfl dX6_tally_81 ?_
                    refine xaload_n C 1 rfl dX6_tally_83 ?_
                    refine gX6_41 C dX6_tally_84 ?_
                    refine xiload_n C 2 rfl dX6_tally_87 ?_
                    refine ma_st C hW 8 (by decide) (by decide) hHB p (by omega) dX6_tally_88 ?_
                    have fb88 := (hHB p (by omega)).2
                    refine xiaddN C dX6_tally_89 ?_
                    refine xistore (lv' := [(5, .int (nI (c + ((itN K (y + nI i) (lS K) (-nI (2 ^ e)) (2 ^ e)) p)))), (6, .int (nI 1)), (0, .ref (b 0)), (1, .int (nI p)), (2, .int y), (3, .int (nI n)), (4, .int sd), (7, .int (nI i))]) C dX6_tally_90 (by decide) rfl ?_
                    refine xiincN (lv' := [(7, .int (nI (i + 1))), (5, .int (nI (c + ((itN K (y + nI i) (lS K) (-nI (2 ^ e)) (2 ^ e)) p)))), (6, .int (nI 1)), (0, .ref (b 0)), (1, .int (nI p)), (2, .int y), (3, .int (nI n)), (4, .int sd)]) C 7 rfl dX6_tally_92 (by decide) rfl ?_
                    refine xgoto C 48 dX6_tally_95 (by decide) ?_
                    refine xsub [3, 4, 5, 6, 7, 1, 2, 0] rfl ?_
                    exact ih48 (i + 1) 1 (c + itN K (y + nI i) (lS K) (-nI (2 ^ e)) (2 ^ e) p) IB FB (by omega) (tlS_go hst h56 hfar (hHB p hp).2) hIC hXC (by omega)
                ·
                  have hXC : (∀ q, q ≠ 8 → q ≠ 9 → FB q = FA q) := fun q h1 h2 => (hXB q h1 h2).trans (hXD q h1 h2)
                  have hIC : ∀ q, q ≠ 7 → q ≠ 10 → IB q = I q := fun q h1 h2 => (hIB q h1).trans ((va_up_ne _ _ h2).trans (hID q h1 h2))
                  have hKB : CFG K IB FB := hKA.of (fun q hq => hIC q (by omega) (by omega)) (fun q hq => hXC q (by omega) (by omega))
                  refine xif_leN C 78 dX6_tally_71 (by decide) (by omega) (fun h71 => ?_) (fun h71 => ?_)
                  ·
                    refine xiconst (v := nI 0) C dX6_tally_78 (by decide) ?_
                    refine xistore (lv' := [(6, .int (nI 0)), (0, .ref (b 0)), (1, .int (nI p)), (2, .int y), (3, .int (nI n)), (4, .int sd), (5, .int (nI c)), (7, .int (nI i))]) C dX6_tally_79 (by decide) rfl ?_
                    refine xiload C 6 rfl dX6_tally_81 ?_
                    refine xaload_n C 1 rfl dX6_tally_83 ?_
                    refine gX6_41 C dX6_tally_84 ?_
                    refine xiload_n C 2 rfl dX6_tally_87 ?_
                    refine ma_st C hW 8 (by decide) (by decide) hg8 p (by omega) dX6_tally_88 ?_
                    have fb88 := (hg8 p (by omega)).2
                    refine xiaddN C dX6_tally_89 ?_
                    refine xistore (lv' := [(5, .int (nI (c + (g8 p)))), (6, .int (nI 0)), (0, .ref (b 0)), (1, .int (nI p)), (2, .int y), (3, .int (nI n)), (4, .int sd), (7, .int (nI i))]) C dX6_tally_90 (by decide) rfl ?_
                    refine xiincN (lv' := [(7, .int (nI (i + 1))), (5, .int (nI (c + (g8 p)))), (6, .int (nI 0)), (0, .ref (b 0)), (1, .int (nI p)), (2, .int y), (3, .int (nI n)), (4, .int sd)]) C 7 rfl dX6_tally_92 (by decide) rfl ?_
                    refine xgoto C 48 dX6_tally_95 (by decide) ?_
                    refine xsub [3, 4, 5, 6, 7, 1, 2, 0] rfl ?_
                    exact ih48 (i + 1) 0 (c + g8 p) IB FB (by omega) (tlS_no hst h56 hfar (hg8 p hp).2) hIC hXC (by omega)
                  · exact absurd h71 (by omega)
        refine xsub [4, 5, 6, 7, 3, 2, 1, 0] rfl ?_
        exact LP48 _ 0 1 0 I FA (Nat.zero_le _) tlS_0 (fun _ _ _ => rfl) (fun _ _ _ => rfl) (Nat.lt_succ_self _)
      ·
        refine xbipush (v := -5) C dX6_tally_30 (by decide) ?_
        exact xret C hR (rfl) dX6_tally_32 (MO.mk (by rw [opTally, ci_f (fun q => q (hasP_nat hW hp)), ci_f (fun q => q.elim hin.1 hin.2), ci_t (bn_0 h27)]) (hX.of (fun _ _ => rfl) (fun q h1 h2 h3 => hXA q h3)))
    ·
      refine xbipush (v := -2) C dX6_tally_20 (by decide) ?_
      exact xret C hR (rfl) dX6_tally_22 (MO.mk (by rw [opTally, ci_f (fun q => q (hasP_nat hW hp)), ci_t (nand (bn_0 h17))]) hX)
  ·
    have h5 := bn_0 h5
    refine xiconst (v := -1) C dX6_tally_8 (by decide) ?_
    exact xret C hR (rfl) dX6_tally_9 (MO.mk (by rw [opTally, ci_t h5]) hX)
