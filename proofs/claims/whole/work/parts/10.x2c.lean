/-! Rules: settle (written by my program parts_x2c.py). -/
def h0 (K : Cfg) (p : Nat) : Nat := if kk K = 1 ∧ khd K p ≠ 0 then khd K p - 1 else nohN K p (mostN K p)
def l0 (K : Cfg) (p : Nat) : Nat := if kk K = 1 ∧ khd K p ≠ 0 then khd K p - 1 else nohN K p 0
/-- the highest and the lowest state, if there is one -/
def hS (K : Cfg) : Nat → Nat := if kk K = 1 then rrH K (h0 K) (kn K) else h0 K
def lS (K : Cfg) : Nat → Nat := if kk K = 1 then rrL K (l0 K) (kn K) else l0 K
def GoodP (K : Cfg) : Prop := 0 < kn K ∧ soundP K (lS K) (hS K)
theorem hdN {x : Nat} (h : x ≠ 0) : nI x - 1 = nI (x - 1) := by
  obtain ⟨y, rfl⟩ : ∃ y, x = y + 1 := ⟨x - 1, by omega⟩
  exact nI_pred y
theorem h0_held {K : Cfg} (hW : WFK K) {p : Nat} (hp : p < kn K) (h : kk K = 1 ∧ khd K p ≠ 0) : nI (khd K p) - 1 = nI (h0 K p) := by unfold h0; rw [if_pos h]; exact hdN h.2
theorem h0_free {K : Cfg} {p : Nat} (h : ¬ (kk K = 1 ∧ khd K p ≠ 0)) : nohN K p (mostN K p) = h0 K p := by unfold h0; rw [if_neg h]
theorem l0_held {K : Cfg} (hW : WFK K) {p : Nat} (hp : p < kn K) (h : kk K = 1 ∧ khd K p ≠ 0) : nI (khd K p) - 1 = nI (l0 K p) := by unfold l0; rw [if_pos h]; exact hdN h.2
theorem l0_free {K : Cfg} {p : Nat} (h : ¬ (kk K = 1 ∧ khd K p ≠ 0)) : nohN K p 0 = l0 K p := by unfold l0; rw [if_neg h]
theorem h0_le {K : Cfg} (hW : WFK K) {p : Nat} (hp : p < kn K) : h0 K p ≤ 5 := by
  have := hW.hd6 hp
  unfold h0
  split
  · omega
  · exact nohN_le (mostN_le hW hp)
theorem l0_le {K : Cfg} (hW : WFK K) {p : Nat} (hp : p < kn K) : l0 K p ≤ 5 := by
  have := hW.hd6 hp
  unfold l0
  split
  · omega
  · exact nohN_le (by omega)
theorem RA.snoc {n : Nat} {g : Nat → Int32} {f : Nat → Nat} (h : RA n g f) (hx : f n ≤ 5) : RA (n + 1) (upd g n (nI (f n))) f := by
  intro q hq
  unfold upd
  by_cases e : q = n
  · subst e; rw [if_pos rfl]; exact ⟨rfl, hx⟩
  · rw [if_neg e]; exact h q (by omega)
theorem fit_bn (P : Prop) : fits .boolean (.int (nI (bn P))) = true := by
  rcases Classical.em P with h | h
  · rw [bn_t h]; rfl
  · rw [bn_f h]; rfl
theorem dX2_settle_0 : decode cX2_settle 0 = .ok (.iconst 0, 1) := by decide +kernel
theorem dX2_settle_1 : decode cX2_settle 1 = .ok (.istore_n 1, 1) := by decide +kernel
theorem dX2_settle_2 : decode cX2_settle 2 = .ok (.iload_n 1, 1) := by decide +kernel
theorem dX2_settle_3 : decode cX2_settle 3 = .ok (.aload_n 0, 1) := by decide +kernel
theorem dX2_settle_4 : decode cX2_settle 4 = .ok (.getfield 32, 3) := by decide +kernel
theorem dX2_settle_7 : decode cX2_settle 7 = .ok (.getfield 55, 3) := by decide +kernel
theorem dX2_settle_10 : decode cX2_settle 10 = .ok (.if_icmp .ge 77, 3) := by decide +kernel
theorem dX2_settle_13 : decode cX2_settle 13 = .ok (.aload_n 0, 1) := by decide +kernel
theorem dX2_settle_14 : decode cX2_settle 14 = .ok (.getfield 9, 3) := by decide +kernel
theorem dX2_settle_17 : decode cX2_settle 17 = .ok (.iload_n 1, 1) := by decide +kernel
theorem dX2_settle_18 : decode cX2_settle 18 = .ok (.aload_n 0, 1) := by decide +kernel
theorem dX2_settle_19 : decode cX2_settle 19 = .ok (.iload_n 1, 1) := by decide +kernel
theorem dX2_settle_20 : decode cX2_settle 20 = .ok (.invokevirtual 51, 3) := by decide +kernel
theorem dX2_settle_23 : decode cX2_settle 23 = .ok (.ifCond .eq 15, 3) := by decide +kernel
theorem dX2_settle_26 : decode cX2_settle 26 = .ok (.aload_n 0, 1) := by decide +kernel
theorem dX2_settle_27 : decode cX2_settle 27 = .ok (.getfield 32, 3) := by decide +kernel
theorem dX2_settle_30 : decode cX2_settle 30 = .ok (.getfield 44, 3) := by decide +kernel
theorem dX2_settle_33 : decode cX2_settle 33 = .ok (.iload_n 1, 1) := by decide +kernel
theorem dX2_settle_34 : decode cX2_settle 34 = .ok (.iaload, 1) := by decide +kernel
theorem dX2_settle_35 : decode cX2_settle 35 = .ok (.goto 13, 3) := by decide +kernel
theorem dX2_settle_38 : decode cX2_settle 38 = .ok (.aload_n 0, 1) := by decide +kernel
theorem dX2_settle_39 : decode cX2_settle 39 = .ok (.iload_n 1, 1) := by decide +kernel
theorem dX2_settle_40 : decode cX2_settle 40 = .ok (.aload_n 0, 1) := by decide +kernel
theorem dX2_settle_41 : decode cX2_settle 41 = .ok (.iload_n 1, 1) := by decide +kernel
theorem dX2_settle_42 : decode cX2_settle 42 = .ok (.invokevirtual 47, 3) := by decide +kernel
theorem dX2_settle_45 : decode cX2_settle 45 = .ok (.invokevirtual 81, 3) := by decide +kernel
theorem dX2_settle_48 : decode cX2_settle 48 = .ok (.iastore, 1) := by decide +kernel
theorem dX2_settle_49 : decode cX2_settle 49 = .ok (.aload_n 0, 1) := by decide +kernel
theorem dX2_settle_50 : decode cX2_settle 50 = .ok (.getfield 15, 3) := by decide +kernel
theorem dX2_settle_53 : decode cX2_settle 53 = .ok (.iload_n 1, 1) := by decide +kernel
theorem dX2_settle_54 : decode cX2_settle 54 = .ok (.aload_n 0, 1) := by decide +kernel
theorem dX2_settle_55 : decode cX2_settle 55 = .ok (.iload_n 1, 1) := by decide +kernel
theorem dX2_settle_56 : decode cX2_settle 56 = .ok (.invokevirtual 51, 3) := by decide +kernel
theorem dX2_settle_59 : decode cX2_settle 59 = .ok (.ifCond .eq 15, 3) := by decide +kernel
theorem dX2_settle_62 : decode cX2_settle 62 = .ok (.aload_n 0, 1) := by decide +kernel
theorem dX2_settle_63 : decode cX2_settle 63 = .ok (.getfield 32, 3) := by decide +kernel
theorem dX2_settle_66 : decode cX2_settle 66 = .ok (.getfield 44, 3) := by decide +kernel
theorem dX2_settle_69 : decode cX2_settle 69 = .ok (.iload_n 1, 1) := by decide +kernel
theorem dX2_settle_70 : decode cX2_settle 70 = .ok (.iaload, 1) := by decide +kernel
theorem dX2_settle_71 : decode cX2_settle 71 = .ok (.goto 9, 3) := by decide +kernel
theorem dX2_settle_74 : decode cX2_settle 74 = .ok (.aload_n 0, 1) := by decide +kernel
theorem dX2_settle_75 : decode cX2_settle 75 = .ok (.iload_n 1, 1) := by decide +kernel
theorem dX2_settle_76 : decode cX2_settle 76 = .ok (.iconst 0, 1) := by decide +kernel
theorem dX2_settle_77 : decode cX2_settle 77 = .ok (.invokevirtual 81, 3) := by decide +kernel
theorem dX2_settle_80 : decode cX2_settle 80 = .ok (.iastore, 1) := by decide +kernel
theorem dX2_settle_81 : decode cX2_settle 81 = .ok (.iinc 1 1, 3) := by decide +kernel
theorem dX2_settle_84 : decode cX2_settle 84 = .ok (.goto (-82), 3) := by decide +kernel
theorem dX2_settle_87 : decode cX2_settle 87 = .ok (.aload_n 0, 1) := by decide +kernel
theorem dX2_settle_88 : decode cX2_settle 88 = .ok (.getfield 18, 3) := by decide +kernel
theorem dX2_settle_91 : decode cX2_settle 91 = .ok (.iconst 1, 1) := by decide +kernel
theorem dX2_settle_92 : decode cX2_settle 92 = .ok (.if_icmp .ne 7, 3) := by decide +kernel
theorem dX2_settle_95 : decode cX2_settle 95 = .ok (.aload_n 0, 1) := by decide +kernel
theorem dX2_settle_96 : decode cX2_settle 96 = .ok (.invokevirtual 84, 3) := by decide +kernel
theorem dX2_settle_99 : decode cX2_settle 99 = .ok (.aload_n 0, 1) := by decide +kernel
theorem dX2_settle_100 : decode cX2_settle 100 = .ok (.aload_n 0, 1) := by decide +kernel
theorem dX2_settle_101 : decode cX2_settle 101 = .ok (.getfield 32, 3) := by decide +kernel
theorem dX2_settle_104 : decode cX2_settle 104 = .ok (.getfield 55, 3) := by decide +kernel
theorem dX2_settle_107 : decode cX2_settle 107 = .ok (.ifCond .le 14, 3) := by decide +kernel
theorem dX2_settle_110 : decode cX2_settle 110 = .ok (.aload_n 0, 1) := by decide +kernel
theorem dX2_settle_111 : decode cX2_settle 111 = .ok (.invokevirtual 87, 3) := by decide +kernel
theorem dX2_settle_114 : decode cX2_settle 114 = .ok (.ifCond .eq 7, 3) := by decide +kernel
theorem dX2_settle_117 : decode cX2_settle 117 = .ok (.iconst 1, 1) := by decide +kernel
theorem dX2_settle_118 : decode cX2_settle 118 = .ok (.goto 4, 3) := by decide +kernel
theorem dX2_settle_121 : decode cX2_settle 121 = .ok (.iconst 0, 1) := by decide +kernel
theorem dX2_settle_122 : decode cX2_settle 122 = .ok (.putfield 28, 3) := by decide +kernel
theorem dX2_settle_125 : decode cX2_settle 125 = .ok (.return_, 1) := by decide +kernel
def rX2_settle : Room := { frames := 2, cells := 0, slots := 0, locals := 45 }
theorem yk_X2_settle : YK yX2_settle cX2_settle 2 none 0 := ⟨xim_X2_settle, xse_X2_settle, xin_X2, xco_X2_settle, by decide +kernel⟩
set_option maxRecDepth 4000 in
theorem c_X2_settle {l : Launch} {D : va_G} {t : Nat → ClassId} {a : Nat → Nat} {I : Nat → Int32} {F : Nat → Nat → Int32} {L : Nat → Int64} {K : Cfg} (hK : CFG K I F) (hW : WFK K)  : CT l D t yX2_settle cX2_settle 2 none rX2_settle 0 0 [.ref (a 2)] (WX a t I F L) (VP (fun w => ∃ (I' : Nat → Int32) (F' : Nat → Nat → Int32), w = WX a t I' F' L ∧ (∀ q, q ≠ 5 → I' q = I q) ∧ I' 5 = nI (bn (GoodP K)) ∧ (∀ q, q ≠ 6 → q ≠ 7 → F' q = F q) ∧ RA (kn K) (F' 6) (hS K) ∧ RA (kn K) (F' 7) (lS K))) := by
  refine CT.of (by decide +kernel) (by simp [lg_sl, Value.category]) (fun X C hR => ?_)
  refine xlocals (lv' := [(0, .ref (a 2))]) rfl ?_
  have fn24 := hW.n24; have fm60 := hW.m60; have fk2 := hW.k2; have fu1 := hW.u1; have fu9 := hW.u9; have fv1 := hW.v1; have fv9 := hW.v9
  refine xiconst (v := nI 0) C dX2_settle_0 (by decide) ?_
  refine xistore_n (lv' := [(1, .int (nI 0)), (0, .ref (a 2))]) C dX2_settle_1 (by decide) rfl ?_
  have LP2 : ∀ (fu2 : Nat) (i : Nat) (FA : Nat → Nat → Int32) (hi1 : i ≤ kn K) (hXA : ∀ q, q ≠ 6 → q ≠ 7 → FA q = F q) (hHA : RA i (FA 6) (h0 K)) (hLA : RA i (FA 7) (l0 K)), kn K - i < fu2 → XW X 0 0 (WX a t I FA L) [(0, .ref (a 2)), (1, .int (nI i))] 2 [] := by
    intro fu2
    induction fu2 with
    | zero => intro i FA hi1 hXA hHA hLA hm2; exact absurd hm2 (Nat.not_lt_zero _)
    | succ fu2 ih2 =>
      intro i FA hi1 hXA hHA hLA hm2
      have hKA : CFG K I FA := hK.of (fun _ _ => rfl) (fun q hq => hXA q (by omega) (by omega))
      refine xiload_n C 1 rfl dX2_settle_2 ?_
      refine xaload_n C 0 rfl dX2_settle_3 ?_
      refine gX2_32 C dX2_settle_4 ?_
      refine gX2_55K C hKA dX2_settle_7 ?_
      refine xicmp_geN C 87 dX2_settle_10 (by decide) (by omega) (by omega) (fun h10 => ?_) (fun h10 => ?_)
      ·
        have ei : i = kn K := by omega
        rw [ei] at hHA hLA
        refine xaload_n C 0 rfl dX2_settle_87 ?_
        refine gX2_18K C hKA dX2_settle_88 ?_
        refine xiconst (v := nI 1) C dX2_settle_91 (by decide) ?_
        refine xicmp_neN C 99 dX2_settle_92 (by decide) (by omega) (by omega) (fun h92 => ?_) (fun h92 => ?_)
        ·
          have hHC : RA (kn K) (FA 6) (hS K) := by unfold hS; rw [if_neg h92]; exact hHA
          have hLC : RA (kn K) (FA 7) (lS K) := by unfold lS; rw [if_neg h92]; exact hLA
          refine xaload_n C 0 rfl dX2_settle_99 ?_
          refine xaload_n C 0 rfl dX2_settle_100 ?_
          refine gX2_32 C dX2_settle_101 ?_
          refine gX2_55K C hKA dX2_settle_104 ?_
          refine xif_leN C 121 dX2_settle_107 (by decide) (by omega) (fun h107 => ?_) (fun h107 => ?_)
          ·
            refine xiconst (v := nI 0) C dX2_settle_121 (by decide) ?_
            refine xtopi (y := nI (bn (GoodP K))) (by rw [bn_f (fun q : GoodP K => absurd q.1 (by omega))]) ?_
            refine pX2_28 C (nar_bn _) (fit_bn _) dX2_settle_122 ?_
            exact xvret C hR dX2_settle_125 (⟨rfl, va_up I 5 (nI (bn (GoodP K))), FA, rfl, fun q h => va_up_ne _ _ h, va_up_self _ _ _, hXA, hHC, hLC⟩)
          ·
            refine xaload_n C 0 rfl dX2_settle_110 ?_
            refine xcVR C (c_X2_isSound hKA hW hHC hLC) yk_X2_isSound 2 rfl rfl xml_X2_87 ⟨⟨Nat.le_of_ble_eq_true rfl, Nat.le_of_ble_eq_true rfl⟩, ⟨rfl, rfl⟩, ⟨Nat.zero_le _, Nat.zero_le _⟩⟩ rfl (Nat.le_of_ble_eq_true rfl) dX2_settle_111 ?_
            refine xif_eqN C 121 dX2_settle_114 (by decide) (bn_lt _) (fun h114 => ?_) (fun h114 => ?_)
            ·
              refine xiconst (v := nI 0) C dX2_settle_121 (by decide) ?_
              refine xtopi (y := nI (bn (GoodP K))) (by rw [bn_f (fun q : GoodP K => bn_0 h114 q.2)]) ?_
              refine pX2_28 C (nar_bn _) (fit_bn _) dX2_settle_122 ?_
              exact xvret C hR dX2_settle_125 (⟨rfl, va_up I 5 (nI (bn (GoodP K))), FA, rfl, fun q h => va_up_ne _ _ h, va_up_self _ _ _, hXA, hHC, hLC⟩)
            ·
              refine xiconst (v := nI 1) C dX2_settle_117 (by decide) ?_
              refine xgoto C 122 dX2_settle_118 (by decide) ?_
              refine xtopi (y := nI (bn (GoodP K))) (by rw [bn_t (P := GoodP K) ⟨h107, bn_1 h114⟩]) ?_
              refine pX2_28 C (nar_bn _) (fit_bn _) dX2_settle_122 ?_
              exact xvret C hR dX2_settle_125 (⟨rfl, va_up I 5 (nI (bn (GoodP K))), FA, rfl, fun q h => va_up_ne _ _ h, va_up_self _ _ _, hXA, hHC, hLC⟩)
        ·
          refine xaload_n C 0 rfl dX2_settle_95 ?_
          refine xcVV C (c_X2_drawTogether hKA hW hHA hLA) yk_X2_drawTogether 2 rfl rfl xml_X2_84 ⟨⟨Nat.le_of_ble_eq_true rfl, Nat.le_of_ble_eq_true rfl⟩, ⟨rfl, rfl⟩, ⟨Nat.zero_le _, Nat.zero_le _⟩⟩ rfl (Nat.le_of_ble_eq_true rfl) dX2_settle_96 (fun wE hE => ?_)
          obtain ⟨FB, rfl, hXD, hHB, hLB⟩ := hE
          have hXB : ∀ q, q ≠ 6 → q ≠ 7 → FB q = F q := fun q h1 h2 => (hXD q h1 h2).trans (hXA q h1 h2)
          have hKB : CFG K I FB := hK.of (fun _ _ => rfl) (fun q hq => hXB q (by omega) (by omega))
          have hHC : RA (kn K) (FB 6) (hS K) := by unfold hS; rw [if_pos h92]; exact hHB
          have hLC : RA (kn K) (FB 7) (lS K) := by unfold lS; rw [if_pos h92]; exact hLB
          refine xaload_n C 0 rfl dX2_settle_99 ?_
          refine xaload_n C 0 rfl dX2_settle_100 ?_
          refine gX2_32 C dX2_settle_101 ?_
          refine gX2_55K C hKB dX2_settle_104 ?_
          refine xif_leN C 121 dX2_settle_107 (by decide) (by omega) (fun h107 => ?_) (fun h107 => ?_)
          ·
            refine xiconst (v := nI 0) C dX2_settle_121 (by decide) ?_
            refine xtopi (y := nI (bn (GoodP K))) (by rw [bn_f (fun q : GoodP K => absurd q.1 (by omega))]) ?_
            refine pX2_28 C (nar_bn _) (fit_bn _) dX2_settle_122 ?_
            exact xvret C hR dX2_settle_125 (⟨rfl, va_up I 5 (nI (bn (GoodP K))), FB, rfl, fun q h => va_up_ne _ _ h, va_up_self _ _ _, hXB, hHC, hLC⟩)
          ·
            refine xaload_n C 0 rfl dX2_settle_110 ?_
            refine xcVR C (c_X2_isSound hKB hW hHC hLC) yk_X2_isSound 2 rfl rfl xml_X2_87 ⟨⟨Nat.le_of_ble_eq_true rfl, Nat.le_of_ble_eq_true rfl⟩, ⟨rfl, rfl⟩, ⟨Nat.zero_le _, Nat.zero_le _⟩⟩ rfl (Nat.le_of_ble_eq_true rfl) dX2_settle_111 ?_
            refine xif_eqN C 121 dX2_settle_114 (by decide) (bn_lt _) (fun h114 => ?_) (fun h114 => ?_)
            ·
              refine xiconst (v := nI 0) C dX2_settle_121 (by decide) ?_
              refine xtopi (y := nI (bn (GoodP K))) (by rw [bn_f (fun q : GoodP K => bn_0 h114 q.2)]) ?_
              refine pX2_28 C (nar_bn _) (fit_bn _) dX2_settle_122 ?_
              exact xvret C hR dX2_settle_125 (⟨rfl, va_up I 5 (nI (bn (GoodP K))), FB, rfl, fun q h => va_up_ne _ _ h, va_up_self _ _ _, hXB, hHC, hLC⟩)
            ·
              refine xiconst (v := nI 1) C dX2_settle_117 (by decide) ?_
              refine xgoto C 122 dX2_settle_118 (by decide) ?_
              refine xtopi (y := nI (bn (GoodP K))) (by rw [bn_t (P := GoodP K) ⟨h107, bn_1 h114⟩]) ?_
              refine pX2_28 C (nar_bn _) (fit_bn _) dX2_settle_122 ?_
              exact xvret C hR dX2_settle_125 (⟨rfl, va_up I 5 (nI (bn (GoodP K))), FB, rfl, fun q h => va_up_ne _ _ h, va_up_self _ _ _, hXB, hHC, hLC⟩)
      ·
        refine xaload_n C 0 rfl dX2_settle_13 ?_
        refine gX2_9 C dX2_settle_14 ?_
        refine xiload_n C 1 rfl dX2_settle_17 ?_
        refine xaload_n C 0 rfl dX2_settle_18 ?_
        refine xiload_n C 1 rfl dX2_settle_19 ?_
        refine xcVR C (c_X2_isHeld hKA hW i (by omega)) yk_X2_isHeld 2 rfl rfl xml_X2_51 ⟨⟨Nat.le_of_ble_eq_true rfl, Nat.le_of_ble_eq_true rfl⟩, ⟨rfl, rfl⟩, ⟨Nat.zero_le _, Nat.zero_le _⟩⟩ rfl (Nat.le_of_ble_eq_true rfl) dX2_settle_20 ?_
        have fi20 := bn_le (kk K = 1 ∧ khd K i ≠ 0)
        refine xif_eqN C 38 dX2_settle_23 (by decide) (bn_lt _) (fun h23 => ?_) (fun h23 => ?_)
        ·
          refine xaload_n C 0 rfl dX2_settle_38 ?_
          refine xiload_n C 1 rfl dX2_settle_39 ?_
          refine xaload_n C 0 rfl dX2_settle_40 ?_
          refine xiload_n C 1 rfl dX2_settle_41 ?_
          refine xcVR C (c_X2_most hKA hW i (by omega)) yk_X2_most 2 rfl rfl xml_X2_47 ⟨⟨Nat.le_of_ble_eq_true rfl, Nat.le_of_ble_eq_true rfl⟩, ⟨rfl, rfl⟩, ⟨Nat.zero_le _, Nat.zero_le _⟩⟩ rfl (Nat.le_of_ble_eq_true rfl) dX2_settle_42 ?_
          have fm42 := mostN_le hW (show i < kn K by omega)
          refine xcVR C (c_X2_numberOfHeight hKA hW i (by omega) (mostN K i) (by omega)) yk_X2_numberOfHeight 2 rfl rfl xml_X2_81 ⟨⟨Nat.le_of_ble_eq_true rfl, Nat.le_of_ble_eq_true rfl⟩, ⟨rfl, rfl⟩, ⟨Nat.zero_le _, Nat.zero_le _⟩⟩ rfl (Nat.le_of_ble_eq_true rfl) dX2_settle_45 ?_
          have fo45 : nohN K i (mostN K i) ≤ 5 := nohN_le (by omega)
          refine xtopi (y := nI (h0 K i)) (by rw [h0_free (bn_0 h23)]) ?_
          refine xs_st C 6 (by omega) (by omega) i (by omega) dX2_settle_48 ?_
          obtain ⟨F1, eF1⟩ : ∃ z : Nat → Nat → Int32, z = va_up FA 6 (upd (FA 6) i (nI (h0 K i))) := ⟨_, rfl⟩
          refine xworld (ws' := WX a t I F1 L) (by rw [eF1]) ?_
          have hK1 : CFG K I F1 := by rw [eF1]; exact hKA.upF (by omega) (by omega) _
          have hR1 : RA (i + 1) (F1 6) (h0 K) := by rw [eF1, va_up_self]; exact hHA.snoc (h0_le hW (by omega))
          have hO1 := hLA
          rw [show FA 7 = F1 7 from by rw [eF1, va_up_ne _ _ (by decide)]] at hO1
          have hX1 : ∀ q, q ≠ 6 → q ≠ 7 → F1 q = F q := fun q h1 h2 => by rw [eF1, va_up_ne _ _ (by omega)]; exact hXA q h1 h2
          refine xaload_n C 0 rfl dX2_settle_49 ?_
          refine gX2_15 C dX2_settle_50 ?_
          refine xiload_n C 1 rfl dX2_settle_53 ?_
          refine xaload_n C 0 rfl dX2_settle_54 ?_
          refine xiload_n C 1 rfl dX2_settle_55 ?_
          refine xcVR C (c_X2_isHeld hK1 hW i (by omega)) yk_X2_isHeld 2 rfl rfl xml_X2_51 ⟨⟨Nat.le_of_ble_eq_true rfl, Nat.le_of_ble_eq_true rfl⟩, ⟨rfl, rfl⟩, ⟨Nat.zero_le _, Nat.zero_le _⟩⟩ rfl (Nat.le_of_ble_eq_true rfl) dX2_settle_56 ?_
          have fi56 := bn_le (kk K = 1 ∧ khd K i ≠ 0)
          refine xif_eqN C 74 dX2_settle_59 (by decide) (bn_lt _) (fun h59 => ?_) (fun h59 => ?_)
          ·
            refine xaload_n C 0 rfl dX2_settle_74 ?_
            refine xiload_n C 1 rfl dX2_settle_75 ?_
            refine xiconst (v := nI 0) C dX2_settle_76 (by decide) ?_
            refine xcVR C (c_X2_numberOfHeight hK1 hW i (by omega) 0 (by omega)) yk_X2_numberOfHeight 2 rfl rfl xml_X2_81 ⟨⟨Nat.le_of_ble_eq_true rfl, Nat.le_of_ble_eq_true rfl⟩, ⟨rfl, rfl⟩, ⟨Nat.zero_le _, Nat.zero_le _⟩⟩ rfl (Nat.le_of_ble_eq_true rfl) dX2_settle_77 ?_
            have fo77 : nohN K i 0 ≤ 5 := nohN_le (by omega)
            refine xtopi (y := nI (l0 K i)) (by rw [l0_free (bn_0 h59)]) ?_
            refine xs_st C 7 (by omega) (by omega) i (by omega) dX2_settle_80 ?_
            obtain ⟨F2, eF2⟩ : ∃ z : Nat → Nat → Int32, z = va_up F1 7 (upd (F1 7) i (nI (l0 K i))) := ⟨_, rfl⟩
            refine xworld (ws' := WX a t I F2 L) (by rw [eF2]) ?_
            have hK2 : CFG K I F2 := by rw [eF2]; exact hK1.upF (by omega) (by omega) _
            have hR2 : RA (i + 1) (F2 7) (l0 K) := by rw [eF2, va_up_self]; exact hO1.snoc (l0_le hW (by omega))
            have hO2 := hR1
            rw [show F1 6 = F2 6 from by rw [eF2, va_up_ne _ _ (by decide)]] at hO2
            have hX2 : ∀ q, q ≠ 6 → q ≠ 7 → F2 q = F q := fun q h1 h2 => by rw [eF2, va_up_ne _ _ (by omega)]; exact hX1 q h1 h2
            refine xiincN (lv' := [(1, .int (nI (i + 1))), (0, .ref (a 2))]) C 1 rfl dX2_settle_81 (by decide) rfl ?_
            refine xgoto C 2 dX2_settle_84 (by decide) ?_
            refine xsub [1, 0] rfl ?_
            exact ih2 (i + 1) F2 (by omega) hX2 hO2 hR2 (by omega)
          ·
            refine xaload_n C 0 rfl dX2_settle_62 ?_
            refine gX2_32 C dX2_settle_63 ?_
            refine gX2_44 C dX2_settle_66 ?_
            refine xiload_n C 1 rfl dX2_settle_69 ?_
            refine xa_hd C hK1 hW i (by omega) dX2_settle_70 ?_
            have fb70 := (hW.hd6 (by omega))
            refine xgoto C 80 dX2_settle_71 (by decide) ?_
            refine xtopi (y := nI (l0 K i)) (l0_held hW (by omega) (bn_1 h59)) ?_
            refine xs_st C 7 (by omega) (by omega) i (by omega) dX2_settle_80 ?_
            obtain ⟨F2, eF2⟩ : ∃ z : Nat → Nat → Int32, z = va_up F1 7 (upd (F1 7) i (nI (l0 K i))) := ⟨_, rfl⟩
            refine xworld (ws' := WX a t I F2 L) (by rw [eF2]) ?_
            have hK2 : CFG K I F2 := by rw [eF2]; exact hK1.upF (by omega) (by omega) _
            have hR2 : RA (i + 1) (F2 7) (l0 K) := by rw [eF2, va_up_self]; exact hO1.snoc (l0_le hW (by omega))
            have hO2 := hR1
            rw [show F1 6 = F2 6 from by rw [eF2, va_up_ne _ _ (by decide)]] at hO2
            have hX2 : ∀ q, q ≠ 6 → q ≠ 7 → F2 q = F q := fun q h1 h2 => by rw [eF2, va_up_ne _ _ (by omega)]; exact hX1 q h1 h2
            refine xiincN (lv' := [(1, .int (nI (i + 1))), (0, .ref (a 2))]) C 1 rfl dX2_settle_81 (by decide) rfl ?_
            refine xgoto C 2 dX2_settle_84 (by decide) ?_
            refine xsub [1, 0] rfl ?_
            exact ih2 (i + 1) F2 (by omega) hX2 hO2 hR2 (by omega)
        ·
          refine xaload_n C 0 rfl dX2_settle_26 ?_
          refine gX2_32 C dX2_settle_27 ?_
          refine gX2_44 C dX2_settle_30 ?_
          refine xiload_n C 1 rfl dX2_settle_33 ?_
          refine xa_hd C hKA hW i (by omega) dX2_settle_34 ?_
          have fb34 := (hW.hd6 (by omega))
          refine xgoto C 48 dX2_settle_35 (by decide) ?_
          refine xtopi (y := nI (h0 K i)) (h0_held hW (by omega) (bn_1 h23)) ?_
          refine xs_st C 6 (by omega) (by omega) i (by omega) dX2_settle_48 ?_
          obtain ⟨F1, eF1⟩ : ∃ z : Nat → Nat → Int32, z = va_up FA 6 (upd (FA 6) i (nI (h0 K i))) := ⟨_, rfl⟩
          refine xworld (ws' := WX a t I F1 L) (by rw [eF1]) ?_
          have hK1 : CFG K I F1 := by rw [eF1]; exact hKA.upF (by omega) (by omega) _
          have hR1 : RA (i + 1) (F1 6) (h0 K) := by rw [eF1, va_up_self]; exact hHA.snoc (h0_le hW (by omega))
          have hO1 := hLA
          rw [show FA 7 = F1 7 from by rw [eF1, va_up_ne _ _ (by decide)]] at hO1
          have hX1 : ∀ q, q ≠ 6 → q ≠ 7 → F1 q = F q := fun q h1 h2 => by rw [eF1, va_up_ne _ _ (by omega)]; exact hXA q h1 h2
          refine xaload_n C 0 rfl dX2_settle_49 ?_
          refine gX2_15 C dX2_settle_50 ?_
          refine xiload_n C 1 rfl dX2_settle_53 ?_
          refine xaload_n C 0 rfl dX2_settle_54 ?_
          refine xiload_n C 1 rfl dX2_settle_55 ?_
          refine xcVR C (c_X2_isHeld hK1 hW i (by omega)) yk_X2_isHeld 2 rfl rfl xml_X2_51 ⟨⟨Nat.le_of_ble_eq_true rfl, Nat.le_of_ble_eq_true rfl⟩, ⟨rfl, rfl⟩, ⟨Nat.zero_le _, Nat.zero_le _⟩⟩ rfl (Nat.le_of_ble_eq_true rfl) dX2_settle_56 ?_
          have fi56 := bn_le (kk K = 1 ∧ khd K i ≠ 0)
          refine xif_eqN C 74 dX2_settle_59 (by decide) (bn_lt _) (fun h59 => ?_) (fun h59 => ?_)
          ·
            refine xaload_n C 0 rfl dX2_settle_74 ?_
            refine xiload_n C 1 rfl dX2_settle_75 ?_
            refine xiconst (v := nI 0) C dX2_settle_76 (by decide) ?_
            refine xcVR C (c_X2_numberOfHeight hK1 hW i (by omega) 0 (by omega)) yk_X2_numberOfHeight 2 rfl rfl xml_X2_81 ⟨⟨Nat.le_of_ble_eq_true rfl, Nat.le_of_ble_eq_true rfl⟩, ⟨rfl, rfl⟩, ⟨Nat.zero_le _, Nat.zero_le _⟩⟩ rfl (Nat.le_of_ble_eq_true rfl) dX2_settle_77 ?_
            have fo77 : nohN K i 0 ≤ 5 := nohN_le (by omega)
            refine xtopi (y := nI (l0 K i)) (by rw [l0_free (bn_0 h59)]) ?_
            refine xs_st C 7 (by omega) (by omega) i (by omega) dX2_settle_80 ?_
            obtain ⟨F2, eF2⟩ : ∃ z : Nat → Nat → Int32, z = va_up F1 7 (upd (F1 7) i (nI (l0 K i))) := ⟨_, rfl⟩
            refine xworld (ws' := WX a t I F2 L) (by rw [eF2]) ?_
            have hK2 : CFG K I F2 := by rw [eF2]; exact hK1.upF (by omega) (by omega) _
            have hR2 : RA (i + 1) (F2 7) (l0 K) := by rw [eF2, va_up_self]; exact hO1.snoc (l0_le hW (by omega))
            have hO2 := hR1
            rw [show F1 6 = F2 6 from by rw [eF2, va_up_ne _ _ (by decide)]] at hO2
            have hX2 : ∀ q, q ≠ 6 → q ≠ 7 → F2 q = F q := fun q h1 h2 => by rw [eF2, va_up_ne _ _ (by omega)]; exact hX1 q h1 h2
            refine xiincN (lv' := [(1, .int (nI (i + 1))), (0, .ref (a 2))]) C 1 rfl dX2_settle_81 (by decide) rfl ?_
            refine xgoto C 2 dX2_settle_84 (by decide) ?_
            refine xsub [1, 0] rfl ?_
            exact ih2 (i + 1) F2 (by omega) hX2 hO2 hR2 (by omega)
          ·
            refine xaload_n C 0 rfl dX2_settle_62 ?_
            refine gX2_32 C dX2_settle_63 ?_
            refine gX2_44 C dX2_settle_66 ?_
            refine xiload_n C 1 rfl dX2_settle_69 ?_
            refine xa_hd C hK1 hW i (by omega) dX2_settle_70 ?_
            have fb70 := (hW.hd6 (by omega))
            refine xgoto C 80 dX2_settle_71 (by decide) ?_
            refine xtopi (y := nI (l0 K i)) (l0_held hW (by omega) (bn_1 h59)) ?_
            refine xs_st C 7 (by omega) (by omega) i (by omega) dX2_settle_80 ?_
            obtain ⟨F2, eF2⟩ : ∃ z : Nat → Nat → Int32, z = va_up F1 7 (upd (F1 7) i (nI (l0 K i))) := ⟨_, rfl⟩
            refine xworld (ws' := WX a t I F2 L) (by rw [eF2]) ?_
            have hK2 : CFG K I F2 := by rw [eF2]; exact hK1.upF (by omega) (by omega) _
            have hR2 : RA (i + 1) (F2 7) (l0 K) := by rw [eF2, va_up_self]; exact hO1.snoc (l0_le hW (by omega))
            have hO2 := hR1
            rw [show F1 6 = F2 6 from by rw [eF2, va_up_ne _ _ (by decide)]] at hO2
            have hX2 : ∀ q, q ≠ 6 → q ≠ 7 → F2 q = F q := fun q h1 h2 => by rw [eF2, va_up_ne _ _ (by omega)]; exact hX1 q h1 h2
            refine xiincN (lv' := [(1, .int (nI (i + 1))), (0, .ref (a 2))]) C 1 rfl dX2_settle_81 (by decide) rfl ?_
            refine xgoto C 2 dX2_settle_84 (by decide) ?_
            refine xsub [1, 0] rfl ?_
            exact ih2 (i + 1) F2 (by omega) hX2 hO2 hR2 (by omega)
  refine xsub [1, 0] rfl ?_
  exact LP2 _ 0 F (Nat.zero_le _) (fun q _ _ => rfl) (fun p h => absurd h (Nat.not_lt_zero _)) (fun p h => absurd h (Nat.not_lt_zero _)) (Nat.lt_succ_self _)
