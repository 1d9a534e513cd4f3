/-! The constructors (written by my program parts_c.py). -/
theorem fsX5 : ∀ j, j < 7 → defaultValue (tyX5 j) = vp_V [.null, .null, .null, .null, .null, .null, .int 0] j := fun j hj => by
  rcases (show j = 0 ∨ j = 1 ∨ j = 2 ∨ j = 3 ∨ j = 4 ∨ j = 5 ∨ j = 6 by omega) with rfl | rfl | rfl | rfl | rfl | rfl | rfl <;> rfl
theorem fsX1 : ∀ j, j < 9 → defaultValue (tyX1 j) = vp_V [.null, .null, .null, .null, .null, .null, .null, .int 0, .int 0] j := fun j hj => by
  rcases (show j = 0 ∨ j = 1 ∨ j = 2 ∨ j = 3 ∨ j = 4 ∨ j = 5 ∨ j = 6 ∨ j = 7 ∨ j = 8 by omega) with rfl | rfl | rfl | rfl | rfl | rfl | rfl | rfl | rfl <;> rfl
theorem fsX2 : ∀ j, j < 7 → defaultValue (tyX2 j) = vp_V [.null, .null, .null, .int 0, .int 0, .int 0, .int 0] j := fun j hj => by
  rcases (show j = 0 ∨ j = 1 ∨ j = 2 ∨ j = 3 ∨ j = 4 ∨ j = 5 ∨ j = 6 by omega) with rfl | rfl | rfl | rfl | rfl | rfl | rfl <;> rfl
theorem fsX4 : ∀ j, j < 3 → defaultValue (tyX4 j) = vp_V [.null, .null, .null] j := fun j hj => by
  rcases (show j = 0 ∨ j = 1 ∨ j = 2 by omega) with rfl | rfl | rfl <;> rfl
theorem fsX0 : ∀ j, j < 10 → defaultValue (tyX0 j) = vp_V [.null, .null, .null, .null, .null, .int 0, .int 0, .null, .int 0, .int 0] j := fun j hj => by
  rcases (show j = 0 ∨ j = 1 ∨ j = 2 ∨ j = 3 ∨ j = 4 ∨ j = 5 ∨ j = 6 ∨ j = 7 ∨ j = 8 ∨ j = 9 by omega) with rfl | rfl | rfl | rfl | rfl | rfl | rfl | rfl | rfl | rfl <;> rfl
theorem fsX3 : ∀ j, j < 3 → defaultValue (tyX3 j) = vp_V [.null, .null, .null] j := fun j hj => by
  rcases (show j = 0 ∨ j = 1 ∨ j = 2 by omega) with rfl | rfl | rfl <;> rfl
theorem fsX6 : ∀ j, j < 21 → defaultValue (tyX6 j) = vp_V [.int 0, .null, .null, .null, .null, .null, .int 0, .null, .null, .int 0, .int 0, .int 0, .int 0, .null, .null, .null, .null, .null, .int 0, .int 0, .int 0] j := fun j hj => by
  rcases (show j = 0 ∨ j = 1 ∨ j = 2 ∨ j = 3 ∨ j = 4 ∨ j = 5 ∨ j = 6 ∨ j = 7 ∨ j = 8 ∨ j = 9 ∨ j = 10 ∨ j = 11 ∨ j = 12 ∨ j = 13 ∨ j = 14 ∨ j = 15 ∨ j = 16 ∨ j = 17 ∨ j = 18 ∨ j = 19 ∨ j = 20 by omega) with rfl | rfl | rfl | rfl | rfl | rfl | rfl | rfl | rfl | rfl | rfl | rfl | rfl | rfl | rfl | rfl | rfl | rfl | rfl | rfl | rfl <;> rfl
theorem dX1_init_0 : decode cX1_init 0 = .ok (.aload_n 0, 1) := by decide +kernel
theorem dX1_init_1 : decode cX1_init 1 = .ok (.invokespecial 3, 3) := by decide +kernel
theorem dX1_init_4 : decode cX1_init 4 = .ok (.aload_n 0, 1) := by decide +kernel
theorem dX1_init_5 : decode cX1_init 5 = .ok (.bipush 24, 2) := by decide +kernel
theorem dX1_init_7 : decode cX1_init 7 = .ok (.newarray .int, 2) := by decide +kernel
theorem dX1_init_9 : decode cX1_init 9 = .ok (.putfield 9, 3) := by decide +kernel
theorem dX1_init_12 : decode cX1_init 12 = .ok (.aload_n 0, 1) := by decide +kernel
theorem dX1_init_13 : decode cX1_init 13 = .ok (.bipush 24, 2) := by decide +kernel
theorem dX1_init_15 : decode cX1_init 15 = .ok (.newarray .int, 2) := by decide +kernel
theorem dX1_init_17 : decode cX1_init 17 = .ok (.putfield 15, 3) := by decide +kernel
theorem dX1_init_20 : decode cX1_init 20 = .ok (.aload_n 0, 1) := by decide +kernel
theorem dX1_init_21 : decode cX1_init 21 = .ok (.bipush 24, 2) := by decide +kernel
theorem dX1_init_23 : decode cX1_init 23 = .ok (.newarray .int, 2) := by decide +kernel
theorem dX1_init_25 : decode cX1_init 25 = .ok (.putfield 18, 3) := by decide +kernel
theorem dX1_init_28 : decode cX1_init 28 = .ok (.aload_n 0, 1) := by decide +kernel
theorem dX1_init_29 : decode cX1_init 29 = .ok (.bipush 24, 2) := by decide +kernel
theorem dX1_init_31 : decode cX1_init 31 = .ok (.newarray .int, 2) := by decide +kernel
theorem dX1_init_33 : decode cX1_init 33 = .ok (.putfield 21, 3) := by decide +kernel
theorem dX1_init_36 : decode cX1_init 36 = .ok (.aload_n 0, 1) := by decide +kernel
theorem dX1_init_37 : decode cX1_init 37 = .ok (.bipush 24, 2) := by decide +kernel
theorem dX1_init_39 : decode cX1_init 39 = .ok (.bipush 6, 2) := by decide +kernel
theorem dX1_init_41 : decode cX1_init 41 = .ok (.multianewarray 24 2, 4) := by decide +kernel
theorem dX1_init_45 : decode cX1_init 45 = .ok (.putfield 26, 3) := by decide +kernel
theorem dX1_init_48 : decode cX1_init 48 = .ok (.aload_n 0, 1) := by decide +kernel
theorem dX1_init_49 : decode cX1_init 49 = .ok (.bipush 60, 2) := by decide +kernel
theorem dX1_init_51 : decode cX1_init 51 = .ok (.newarray .int, 2) := by decide +kernel
theorem dX1_init_53 : decode cX1_init 53 = .ok (.putfield 29, 3) := by decide +kernel
theorem dX1_init_56 : decode cX1_init 56 = .ok (.aload_n 0, 1) := by decide +kernel
theorem dX1_init_57 : decode cX1_init 57 = .ok (.bipush 60, 2) := by decide +kernel
theorem dX1_init_59 : decode cX1_init 59 = .ok (.newarray .int, 2) := by decide +kernel
theorem dX1_init_61 : decode cX1_init 61 = .ok (.putfield 32, 3) := by decide +kernel
theorem dX1_init_64 : decode cX1_init 64 = .ok (.return_, 1) := by decide +kernel
def rX1_init : Room := { frames := 1, cells := 31, slots := 384, locals := 20 }
set_option maxRecDepth 8000 in
theorem c_X1_init {l : Launch} {D : va_G} {t : Nat → ClassId} (q0 : Nat) : CT l D t yX1_init cX1_init 1 none rX1_init 31 384 [.ref q0] ([(q0, .inr (1, [.null, .null, .null, .null, .null, .null, .null, .int 0, .int 0]))]) (VP (fun w => ∃ (q1 : Nat) (q2 : Nat) (q3 : Nat) (q4 : Nat) (q5 : Nat) (r : Nat → Nat) (q6 : Nat) (q7 : Nat), w = [(q7, .inl (t 0, 60, .inl (fun _ => 0))), (q6, .inl (t 0, 60, .inl (fun _ => 0))), (q5, .inl (t 2, 24, .inr (.inr (.inr (.inr (fun i => if i < 24 then some (r i) else none)))))), (q4, .inl (t 0, 24, .inl (fun _ => 0))), (q3, .inl (t 0, 24, .inl (fun _ => 0))), (q2, .inl (t 0, 24, .inl (fun _ => 0))), (q1, .inl (t 0, 24, .inl (fun _ => 0))), (q0, .inr (1, [.ref q1, .ref q2, .ref q3, .ref q4, .ref q5, .ref q6, .ref q7, .int 0, .int 0]))] ++ M24 t r)) := by
  refine CT.ofI (by decide +kernel) rfl (by simp [lg_sl, Value.category]) (fun X C hR hI => ?_)
  refine xlocals (lv' := [(0, .ref q0)]) rfl ?_
  refine xaload_n C 0 rfl dX1_init_0 ?_
  refine xobj C xml_X1_3 (Nat.le_of_ble_eq_true rfl) (Nat.le_of_ble_eq_true rfl) dX1_init_1 ?_
  refine xaload_n C 0 rfl dX1_init_4 ?_
  refine xbipush (v := nI 24) C dX1_init_5 (by decide) ?_
  refine xnewIF C 24 (by decide) (Nat.le_of_ble_eq_true rfl) (Nat.le_of_ble_eq_true rfl) dX1_init_7 (fun q1 => ?_)
  refine xputF (ci := 1) (fs := [.null, .null, .null, .null, .null, .null, .null, .int 0, .int 0]) (ws' := [(q1, .inl (t 0, 24, .inl (fun _ => 0))), (q0, .inr (1, [.ref q1, .null, .null, .null, .null, .null, .null, .int 0, .int 0]))]) C 1 rfl rfl xin_wsX1 tyX1 tyX1_ok nmX1 0 (by decide) xfl_X1_9 rfl rfl hI (by rfl) (by rfl) (Nat.le_of_ble_eq_true rfl) dX1_init_9 rfl ?_
  refine xaload_n C 0 rfl dX1_init_12 ?_
  refine xbipush (v := nI 24) C dX1_init_13 (by decide) ?_
  refine xnewIF C 24 (by decide) (Nat.le_of_ble_eq_true rfl) (Nat.le_of_ble_eq_true rfl) dX1_init_15 (fun q2 => ?_)
  refine xputF (ci := 1) (fs := [.ref q1, .null, .null, .null, .null, .null, .null, .int 0, .int 0]) (ws' := [(q2, .inl (t 0, 24, .inl (fun _ => 0))), (q1, .inl (t 0, 24, .inl (fun _ => 0))), (q0, .inr (1, [.ref q1, .ref q2, .null, .null, .null, .null, .null, .int 0, .int 0]))]) C 2 rfl rfl xin_wsX1 tyX1 tyX1_ok nmX1 1 (by decide) xfl_X1_15 rfl rfl hI (by rfl) (by rfl) (Nat.le_of_ble_eq_true rfl) dX1_init_17 rfl ?_
  refine xaload_n C 0 rfl dX1_init_20 ?_
  refine xbipush (v := nI 24) C dX1_init_21 (by decide) ?_
  refine xnewIF C 24 (by decide) (Nat.le_of_ble_eq_true rfl) (Nat.le_of_ble_eq_true rfl) dX1_init_23 (fun q3 => ?_)
  refine xputF (ci := 1) (fs := [.ref q1, .ref q2, .null, .null, .null, .null, .null, .int 0, .int 0]) (ws' := [(q3, .inl (t 0, 24, .inl (fun _ => 0))), (q2, .inl (t 0, 24, .inl (fun _ => 0))), (q1, .inl (t 0, 24, .inl (fun _ => 0))), (q0, .inr (1, [.ref q1, .ref q2, .ref q3, .null, .null, .null, .null, .int 0, .int 0]))]) C 3 rfl rfl xin_wsX1 tyX1 tyX1_ok nmX1 2 (by decide) xfl_X1_18 rfl rfl hI (by rfl) (by rfl) (Nat.le_of_ble_eq_true rfl) dX1_init_25 rfl ?_
  refine xaload_n C 0 rfl dX1_init_28 ?_
  refine xbipush (v := nI 24) C dX1_init_29 (by decide) ?_
  refine xnewIF C 24 (by decide) (Nat.le_of_ble_eq_true rfl) (Nat.le_of_ble_eq_true rfl) dX1_init_31 (fun q4 => ?_)
  refine xputF (ci := 1) (fs := [.ref q1, .ref q2, .ref q3, .null, .null, .null, .null, .int 0, .int 0]) (ws' := [(q4, .inl (t 0, 24, .inl (fun _ => 0))), (q3, .inl (t 0, 24, .inl (fun _ => 0))), (q2, .inl (t 0, 24, .inl (fun _ => 0))), (q1, .inl (t 0, 24, .inl (fun _ => 0))), (q0, .inr (1, [.ref q1, .ref q2, .ref q3, .ref q4, .null, .null, .null, .int 0, .int 0]))]) C 4 rfl rfl xin_wsX1 tyX1 tyX1_ok nmX1 3 (by decide) xfl_X1_21 rfl rfl hI (by rfl) (by rfl) (Nat.le_of_ble_eq_true rfl) dX1_init_33 rfl ?_
  refine xaload_n C 0 rfl dX1_init_36 ?_
  refine xbipush (v := nI 24) C dX1_init_37 (by decide) ?_
  refine xbipush (v := nI 6) C dX1_init_39 (by decide) ?_
  refine xmna C xcl_X1_24 (Nat.le_of_ble_eq_true rfl) (Nat.le_of_ble_eq_true rfl) dX1_init_41 (fun q5 r => ?_)
  refine xworld (ws' := [(q5, .inl (t 2, 24, .inr (.inr (.inr (.inr (fun i => if i < 24 then some (r i) else none)))))), (q4, .inl (t 0, 24, .inl (fun _ => 0))), (q3, .inl (t 0, 24, .inl (fun _ => 0))), (q2, .inl (t 0, 24, .inl (fun _ => 0))), (q1, .inl (t 0, 24, .inl (fun _ => 0))), (q0, .inr (1, [.ref q1, .ref q2, .ref q3, .ref q4, .null, .null, .null, .int 0, .int 0]))] ++ M24 t r) rfl ?_
  refine xputF (ci := 1) (fs := [.ref q1, .ref q2, .ref q3, .ref q4, .null, .null, .null, .int 0, .int 0]) (ws' := [(q5, .inl (t 2, 24, .inr (.inr (.inr (.inr (fun i => if i < 24 then some (r i) else none)))))), (q4, .inl (t 0, 24, .inl (fun _ => 0))), (q3, .inl (t 0, 24, .inl (fun _ => 0))), (q2, .inl (t 0, 24, .inl (fun _ => 0))), (q1, .inl (t 0, 24, .inl (fun _ => 0))), (q0, .inr (1, [.ref q1, .ref q2, .ref q3, .ref q4, .ref q5, .null, .null, .int 0, .int 0]))] ++ M24 t r) C 5 rfl rfl xin_wsX1 tyX1 tyX1_ok nmX1 4 (by decide) xfl_X1_26 rfl rfl hI (by rfl) (by rfl) (Nat.le_of_ble_eq_true rfl) dX1_init_45 rfl ?_
  refine xaload_n C 0 rfl dX1_init_48 ?_
  refine xbipush (v := nI 60) C dX1_init_49 (by decide) ?_
  refine xnewIF C 60 (by decide) (Nat.le_of_ble_eq_true rfl) (Nat.le_of_ble_eq_true rfl) dX1_init_51 (fun q6 => ?_)
  refine xputF (ci := 1) (fs := [.ref q1, .ref q2, .ref q3, .ref q4, .ref q5, .null, .null, .int 0, .int 0]) (ws' := [(q6, .inl (t 0, 60, .inl (fun _ => 0))), (q5, .inl (t 2, 24, .inr (.inr (.inr (.inr (fun i => if i < 24 then some (r i) else none)))))), (q4, .inl (t 0, 24, .inl (fun _ => 0))), (q3, .inl (t 0, 24, .inl (fun _ => 0))), (q2, .inl (t 0, 24, .inl (fun _ => 0))), (q1, .inl (t 0, 24, .inl (fun _ => 0))), (q0, .inr (1, [.ref q1, .ref q2, .ref q3, .ref q4, .ref q5, .ref q6, .null, .int 0, .int 0]))] ++ M24 t r) C 6 rfl rfl xin_wsX1 tyX1 tyX1_ok nmX1 5 (by decide) xfl_X1_29 rfl rfl hI (by rfl) (by rfl) (Nat.le_of_ble_eq_true rfl) dX1_init_53 rfl ?_
  refine xaload_n C 0 rfl dX1_init_56 ?_
  refine xbipush (v := nI 60) C dX1_init_57 (by decide) ?_
  refine xnewIF C 60 (by decide) (Nat.le_of_ble_eq_true rfl) (Nat.le_of_ble_eq_true rfl) dX1_init_59 (fun q7 => ?_)
  refine xputF (ci := 1) (fs := [.ref q1, .ref q2, .ref q3, .ref q4, .ref q5, .ref q6, .null, .int 0, .int 0]) (ws' := [(q7, .inl (t 0, 60, .inl (fun _ => 0))), (q6, .inl (t 0, 60, .inl (fun _ => 0))), (q5, .inl (t 2, 24, .inr (.inr (.inr (.inr (fun i => if i < 24 then some (r i) else none)))))), (q4, .inl (t 0, 24, .inl (fun _ => 0))), (q3, .inl (t 0, 24, .inl (fun _ => 0))), (q2, .inl (t 0, 24, .inl (fun _ => 0))), (q1, .inl (t 0, 24, .inl (fun _ => 0))), (q0, .inr (1, [.ref q1, .ref q2, .ref q3, .ref q4, .ref q5, .ref q6, .ref q7, .int 0, .int 0]))] ++ M24 t r) C 7 rfl rfl xin_wsX1 tyX1 tyX1_ok nmX1 6 (by decide) xfl_X1_32 rfl rfl hI (by rfl) (by rfl) (Nat.le_of_ble_eq_true rfl) dX1_init_61 rfl ?_
  refine xwiden (k' := 31) (n' := 384) (Nat.le_of_ble_eq_true rfl) (Nat.le_of_ble_eq_true rfl) ?_
  exact xvret C hR dX1_init_64 ⟨rfl, q1, q2, q3, q4, q5, r, q6, q7, rfl⟩
theorem dX2_init_0 : decode cX2_init 0 = .ok (.aload_n 0, 1) := by decide +kernel
theorem dX2_init_1 : decode cX2_init 1 = .ok (.invokespecial 3, 3) := by decide +kernel
theorem dX2_init_4 : decode cX2_init 4 = .ok (.aload_n 0, 1) := by decide +kernel
theorem dX2_init_5 : decode cX2_init 5 = .ok (.bipush 24, 2) := by decide +kernel
theorem dX2_init_7 : decode cX2_init 7 = .ok (.newarray .int, 2) := by decide +kernel
theorem dX2_init_9 : decode cX2_init 9 = .ok (.putfield 9, 3) := by decide +kernel
theorem dX2_init_12 : decode cX2_init 12 = .ok (.aload_n 0, 1) := by decide +kernel
theorem dX2_init_13 : decode cX2_init 13 = .ok (.bipush 24, 2) := by decide +kernel
theorem dX2_init_15 : decode cX2_init 15 = .ok (.newarray .int, 2) := by decide +kernel
theorem dX2_init_17 : decode cX2_init 17 = .ok (.putfield 15, 3) := by decide +kernel
theorem dX2_init_20 : decode cX2_init 20 = .ok (.aload_n 0, 1) := by decide +kernel
theorem dX2_init_21 : decode cX2_init 21 = .ok (.iconst 0, 1) := by decide +kernel
theorem dX2_init_22 : decode cX2_init 22 = .ok (.putfield 18, 3) := by decide +kernel
theorem dX2_init_25 : decode cX2_init 25 = .ok (.aload_n 0, 1) := by decide +kernel
theorem dX2_init_26 : decode cX2_init 26 = .ok (.iconst 1, 1) := by decide +kernel
theorem dX2_init_27 : decode cX2_init 27 = .ok (.putfield 22, 3) := by decide +kernel
theorem dX2_init_30 : decode cX2_init 30 = .ok (.aload_n 0, 1) := by decide +kernel
theorem dX2_init_31 : decode cX2_init 31 = .ok (.iconst 1, 1) := by decide +kernel
theorem dX2_init_32 : decode cX2_init 32 = .ok (.putfield 25, 3) := by decide +kernel
theorem dX2_init_35 : decode cX2_init 35 = .ok (.aload_n 0, 1) := by decide +kernel
theorem dX2_init_36 : decode cX2_init 36 = .ok (.iconst 0, 1) := by decide +kernel
theorem dX2_init_37 : decode cX2_init 37 = .ok (.putfield 28, 3) := by decide +kernel
theorem dX2_init_40 : decode cX2_init 40 = .ok (.aload_n 0, 1) := by decide +kernel
theorem dX2_init_41 : decode cX2_init 41 = .ok (.aload_n 1, 1) := by decide +kernel
theorem dX2_init_42 : decode cX2_init 42 = .ok (.putfield 32, 3) := by decide +kernel
theorem dX2_init_45 : decode cX2_init 45 = .ok (.return_, 1) := by decide +kernel
def rX2_init : Room := { frames := 1, cells := 2, slots := 48, locals := 20 }
set_option maxRecDepth 8000 in
theorem c_X2_init {l : Launch} {D : va_G} {t : Nat → ClassId} (q0 x1 : Nat) : CT l D t yX2_init cX2_init 2 none rX2_init 2 48 [.ref q0, .ref x1] ([(q0, .inr (2, [.null, .null, .null, .int 0, .int 0, .int 0, .int 0]))]) (VP (fun w => ∃ (q1 : Nat) (q2 : Nat), w = [(q2, .inl (t 0, 24, .inl (fun _ => 0))), (q1, .inl (t 0, 24, .inl (fun _ => 0))), (q0, .inr (2, [.ref x1, .ref q1, .ref q2, .int 0, .int 1, .int 1, .int 0]))])) := by
  refine CT.ofI (by decide +kernel) rfl (by simp [lg_sl, Value.category]) (fun X C hR hI => ?_)
  refine xlocals (lv' := [(0, .ref q0), (1, .ref x1)]) rfl ?_
  refine xaload_n C 0 rfl dX2_init_0 ?_
  refine xobj C xml_X2_3 (Nat.le_of_ble_eq_true rfl) (Nat.le_of_ble_eq_true rfl) dX2_init_1 ?_
  refine xaload_n C 0 rfl dX2_init_4 ?_
  refine xbipush (v := nI 24) C dX2_init_5 (by decide) ?_
  refine xnewIF C 24 (by decide) (Nat.le_of_ble_eq_true rfl) (Nat.le_of_ble_eq_true rfl) dX2_init_7 (fun q1 => ?_)
  refine xputF (ci := 2) (fs := [.null, .null, .null, .int 0, .int 0, .int 0, .int 0]) (ws' := [(q1, .inl (t 0, 24, .inl (fun _ => 0))), (q0, .inr (2, [.null, .ref q1, .null, .int 0, .int 0, .int 0, .int 0]))]) C 1 rfl rfl xin_wsX2 tyX2 tyX2_ok nmX2 1 (by decide) xfl_X2_9 rfl rfl hI (by rfl) (by rfl) (Nat.le_of_ble_eq_true rfl) dX2_init_9 rfl ?_
  refine xaload_n C 0 rfl dX2_init_12 ?_
  refine xbipush (v := nI 24) C dX2_init_13 (by decide) ?_
  refine xnewIF C 24 (by decide) (Nat.le_of_ble_eq_true rfl) (Nat.le_of_ble_eq_true rfl) dX2_init_15 (fun q2 => ?_)
  refine xputF (ci := 2) (fs := [.null, .ref q1, .null, .int 0, .int 0, .int 0, .int 0]) (ws' := [(q2, .inl (t 0, 24, .inl (fun _ => 0))), (q1, .inl (t 0, 24, .inl (fun _ => 0))), (q0, .inr (2, [.null, .ref q1, .ref q2, .int 0, .int 0, .int 0, .int 0]))]) C 2 rfl rfl xin_wsX2 tyX2 tyX2_ok nmX2 2 (by decide) xfl_X2_15 rfl rfl hI (by rfl) (by rfl) (Nat.le_of_ble_eq_true rfl) dX2_init_17 rfl ?_
  refine xaload_n C 0 rfl dX2_init_20 ?_
  refine xiconst (v := 0) C dX2_init_21 (by decide) ?_
  refine xput (ci := 2) (fs := [.null, .ref q1, .ref q2, .int 0, .int 0, .int 0, .int 0]) (ws' := [(q2, .inl (t 0, 24, .inl (fun _ => 0))), (q1, .inl (t 0, 24, .inl (fun _ => 0))), (q0, .inr (2, [.null, .ref q1, .ref q2, .int 0, .int 0, .int 0, .int 0]))]) C 2 rfl rfl xin_wsX2 tyX2 tyX2_ok nmX2 3 (by decide) xfl_X2_18 rfl (by rfl) (by rfl) (Nat.le_of_ble_eq_true rfl) dX2_init_22 rfl ?_
  refine xaload_n C 0 rfl dX2_init_25 ?_
  refine xiconst (v := 1) C dX2_init_26 (by decide) ?_
  refine xput (ci := 2) (fs := [.null, .ref q1, .ref q2, .int 0, .int 0, .int 0, .int 0]) (ws' := [(q2, .inl (t 0, 24, .inl (fun _ => 0))), (q1, .inl (t 0, 24, .inl (fun _ => 0))), (q0, .inr (2, [.null, .ref q1, .ref q2, .int 0, .int 1, .int 0, .int 0]))]) C 2 rfl rfl xin_wsX2 tyX2 tyX2_ok nmX2 4 (by decide) xfl_X2_22 rfl (by rfl) (by rfl) (Nat.le_of_ble_eq_true rfl) dX2_init_27 rfl ?_
  refine xaload_n C 0 rfl dX2_init_30 ?_
  refine xiconst (v := 1) C dX2_init_31 (by decide) ?_
  refine xput (ci := 2) (fs := [.null, .ref q1, .ref q2, .int 0, .int 1, .int 0, .int 0]) (ws' := [(q2, .inl (t 0, 24, .inl (fun _ => 0))), (q1, .inl (t 0, 24, .inl (fun _ => 0))), (q0, .inr (2, [.null, .ref q1, .ref q2, .int 0, .int 1, .int 1, .int 0]))]) C 2 rfl rfl xin_wsX2 tyX2 tyX2_ok nmX2 5 (by decide) xfl_X2_25 rfl (by rfl) (by rfl) (Nat.le_of_ble_eq_true rfl) dX2_init_32 rfl ?_
  refine xaload_n C 0 rfl dX2_init_35 ?_
  refine xiconst (v := 0) C dX2_init_36 (by decide) ?_
  refine xput (ci := 2) (fs := [.null, .ref q1, .ref q2, .int 0, .int 1, .int 1, .int 0]) (ws' := [(q2, .inl (t 0, 24, .inl (fun _ => 0))), (q1, .inl (t 0, 24, .inl (fun _ => 0))), (q0, .inr (2, [.null, .ref q1, .ref q2, .int 0, .int 1, .int 1, .int 0]))]) C 2 rfl rfl xin_wsX2 tyX2 tyX2_ok nmX2 6 (by decide) xfl_X2_28 rfl (by rfl) (by rfl) (Nat.le_of_ble_eq_true rfl) dX2_init_37 rfl ?_
  refine xaload_n C 0 rfl dX2_init_40 ?_
  refine xaload_n C 1 rfl dX2_init_41 ?_
  refine xputF (ci := 2) (fs := [.null, .ref q1, .ref q2, .int 0, .int 1, .int 1, .int 0]) (ws' := [(q2, .inl (t 0, 24, .inl (fun _ => 0))), (q1, .inl (t 0, 24, .inl (fun _ => 0))), (q0, .inr (2, [.ref x1, .ref q1, .ref q2, .int 0, .int 1, .int 1, .int 0]))]) C 2 rfl rfl xin_wsX2 tyX2 tyX2_ok nmX2 0 (by decide) xfl_X2_32 rfl rfl hI (by rfl) (by rfl) (Nat.le_of_ble_eq_true rfl) dX2_init_42 rfl ?_
  refine xwiden (k' := 2) (n' := 48) (Nat.le_of_ble_eq_true rfl) (Nat.le_of_ble_eq_true rfl) ?_
  exact xvret C hR dX2_init_45 ⟨rfl, q1, q2, rfl⟩
theorem dX4_init_0 : decode cX4_init 0 = .ok (.aload_n 0, 1) := by decide +kernel
theorem dX4_init_1 : decode cX4_init 1 = .ok (.invokespecial 3, 3) := by decide +kernel
theorem dX4_init_4 : decode cX4_init 4 = .ok (.aload_n 0, 1) := by decide +kernel
theorem dX4_init_5 : decode cX4_init 5 = .ok (.bipush 6, 2) := by decide +kernel
theorem dX4_init_7 : decode cX4_init 7 = .ok (.newarray .long, 2) := by decide +kernel
theorem dX4_init_9 : decode cX4_init 9 = .ok (.putfield 9, 3) := by decide +kernel
theorem dX4_init_12 : decode cX4_init 12 = .ok (.aload_n 0, 1) := by decide +kernel
theorem dX4_init_13 : decode cX4_init 13 = .ok (.aload_n 1, 1) := by decide +kernel
theorem dX4_init_14 : decode cX4_init 14 = .ok (.putfield 15, 3) := by decide +kernel
theorem dX4_init_17 : decode cX4_init 17 = .ok (.aload_n 0, 1) := by decide +kernel
theorem dX4_init_18 : decode cX4_init 18 = .ok (.aload_n 2, 1) := by decide +kernel
theorem dX4_init_19 : decode cX4_init 19 = .ok (.putfield 19, 3) := by decide +kernel
theorem dX4_init_22 : decode cX4_init 22 = .ok (.return_, 1) := by decide +kernel
def rX4_init : Room := { frames := 1, cells := 1, slots := 6, locals := 20 }
set_option maxRecDepth 8000 in
theorem c_X4_init {l : Launch} {D : va_G} {t : Nat → ClassId} (q0 x1 x2 : Nat) : CT l D t yX4_init cX4_init 3 none rX4_init 1 6 [.ref q0, .ref x1, .ref x2] ([(q0, .inr (3, [.null, .null, .null]))]) (VP (fun w => ∃ (q1 : Nat), w = [(q1, .inl (t 1, 6, .inr (.inl (fun _ => 0)))), (q0, .inr (3, [.ref x1, .ref x2, .ref q1]))])) := by
  refine CT.ofI (by decide +kernel) rfl (by simp [lg_sl, Value.category]) (fun X C hR hI => ?_)
  refine xlocals (lv' := [(0, .ref q0), (1, .ref x1), (2, .ref x2)]) rfl ?_
  refine xaload_n C 0 rfl dX4_init_0 ?_
  refine xobj C xml_X4_3 (Nat.le_of_ble_eq_true rfl) (Nat.le_of_ble_eq_true rfl) dX4_init_1 ?_
  refine xaload_n C 0 rfl dX4_init_4 ?_
  refine xbipush (v := nI 6) C dX4_init_5 (by decide) ?_
  refine xnewLF C 6 (by decide) (Nat.le_of_ble_eq_true rfl) (Nat.le_of_ble_eq_true rfl) dX4_init_7 (fun q1 => ?_)
  refine xputF (ci := 3) (fs := [.null, .null, .null]) (ws' := [(q1, .inl (t 1, 6, .inr (.inl (fun _ => 0)))), (q0, .inr (3, [.null, .null, .ref q1]))]) C 1 rfl rfl xin_wsX4 tyX4 tyX4_ok nmX4 2 (by decide) xfl_X4_9 rfl rfl hI (by rfl) (by rfl) (Nat.le_of_ble_eq_true rfl) dX4_init_9 rfl ?_
  refine xaload_n C 0 rfl dX4_init_12 ?_
  refine xaload_n C 1 rfl dX4_init_13 ?_
  refine xputF (ci := 3) (fs := [.null, .null, .ref q1]) (ws' := [(q1, .inl (t 1, 6, .inr (.inl (fun _ => 0)))), (q0, .inr (3, [.ref x1, .null, .ref q1]))]) C 1 rfl rfl xin_wsX4 tyX4 tyX4_ok nmX4 0 (by decide) xfl_X4_15 rfl rfl hI (by rfl) (by rfl) (Nat.le_of_ble_eq_true rfl) dX4_init_14 rfl ?_
  refine xaload_n C 0 rfl dX4_init_17 ?_
  refine xaload_n C 2 rfl dX4_init_18 ?_
  refine xputF (ci := 3) (fs := [.ref x1, .null, .ref q1]) (ws' := [(q1, .inl (t 1, 6, .inr (.inl (fun _ => 0)))), (q0, .inr (3, [.ref x1, .ref x2, .ref q1]))]) C 1 rfl rfl xin_wsX4 tyX4 tyX4_ok nmX4 1 (by decide) xfl_X4_19 rfl rfl hI (by rfl) (by rfl) (Nat.le_of_ble_eq_true rfl) dX4_init_19 rfl ?_
  refine xwiden (k' := 1) (n' := 6) (Nat.le_of_ble_eq_true rfl) (Nat.le_of_ble_eq_true rfl) ?_
  exact xvret C hR dX4_init_22 ⟨rfl, q1, rfl⟩
theorem dX0_init_0 : decode cX0_init 0 = .ok (.aload_n 0, 1) := by decide +kernel
theorem dX0_init_1 : decode cX0_init 1 = .ok (.invokespecial 3, 3) := by decide +kernel
theorem dX0_init_4 : decode cX0_init 4 = .ok (.aload_n 0, 1) := by decide +kernel
theorem dX0_init_5 : decode cX0_init 5 = .ok (.bipush 24, 2) := by decide +kernel
theorem dX0_init_7 : decode cX0_init 7 = .ok (.newarray .int, 2) := by decide +kernel
theorem dX0_init_9 : decode cX0_init 9 = .ok (.putfield 9, 3) := by decide +kernel
theorem dX0_init_12 : decode cX0_init 12 = .ok (.aload_n 0, 1) := by decide +kernel
theorem dX0_init_13 : decode cX0_init 13 = .ok (.bipush 24, 2) := by decide +kernel
theorem dX0_init_15 : decode cX0_init 15 = .ok (.newarray .int, 2) := by decide +kernel
theorem dX0_init_17 : decode cX0_init 17 = .ok (.putfield 15, 3) := by decide +kernel
theorem dX0_init_20 : decode cX0_init 20 = .ok (.aload_n 0, 1) := by decide +kernel
theorem dX0_init_21 : decode cX0_init 21 = .ok (.bipush 24, 2) := by decide +kernel
theorem dX0_init_23 : decode cX0_init 23 = .ok (.newarray .int, 2) := by decide +kernel
theorem dX0_init_25 : decode cX0_init 25 = .ok (.putfield 18, 3) := by decide +kernel
theorem dX0_init_28 : decode cX0_init 28 = .ok (.aload_n 0, 1) := by decide +kernel
theorem dX0_init_29 : decode cX0_init 29 = .ok (.iconst 0, 1) := by decide +kernel
theorem dX0_init_30 : decode cX0_init 30 = .ok (.putfield 21, 3) := by decide +kernel
theorem dX0_init_33 : decode cX0_init 33 = .ok (.aload_n 0, 1) := by decide +kernel
theorem dX0_init_34 : decode cX0_init 34 = .ok (.aload_n 1, 1) := by decide +kernel
theorem dX0_init_35 : decode cX0_init 35 = .ok (.putfield 25, 3) := by decide +kernel
theorem dX0_init_38 : decode cX0_init 38 = .ok (.aload_n 0, 1) := by decide +kernel
theorem dX0_init_39 : decode cX0_init 39 = .ok (.aload_n 2, 1) := by decide +kernel
theorem dX0_init_40 : decode cX0_init 40 = .ok (.putfield 29, 3) := by decide +kernel
theorem dX0_init_43 : decode cX0_init 43 = .ok (.aload_n 0, 1) := by decide +kernel
theorem dX0_init_44 : decode cX0_init 44 = .ok (.aload_n 3, 1) := by decide +kernel
theorem dX0_init_45 : decode cX0_init 45 = .ok (.putfield 33, 3) := by decide +kernel
theorem dX0_init_48 : decode cX0_init 48 = .ok (.return_, 1) := by decide +kernel
def rX0_init : Room := { frames := 1, cells := 3, slots := 72, locals := 20 }
set_option maxRecDepth 8000 in
theorem c_X0_init {l : Launch} {D : va_G} {t : Nat → ClassId} (q0 x1 x2 x3 : Nat) : CT l D t yX0_init cX0_init 4 none rX0_init 3 72 [.ref q0, .ref x1, .ref x2, .ref x3] ([(q0, .inr (4, [.null, .null, .null, .null, .null, .int 0, .int 0, .null, .int 0, .int 0]))]) (VP (fun w => ∃ (q1 : Nat) (q2 : Nat) (q3 : Nat), w = [(q3, .inl (t 0, 24, .inl (fun _ => 0))), (q2, .inl (t 0, 24, .inl (fun _ => 0))), (q1, .inl (t 0, 24, .inl (fun _ => 0))), (q0, .inr (4, [.ref x1, .ref x2, .ref x3, .ref q1, .ref q2, .int 0, .int 0, .ref q3, .int 0, .int 0]))])) := by
  refine CT.ofI (by decide +kernel) rfl (by simp [lg_sl, Value.category]) (fun X C hR hI => ?_)
  refine xlocals (lv' := [(0, .ref q0), (1, .ref x1), (2, .ref x2), (3, .ref x3)]) rfl ?_
  refine xaload_n C 0 rfl dX0_init_0 ?_
  refine xobj C xml_X0_3 (Nat.le_of_ble_eq_true rfl) (Nat.le_of_ble_eq_true rfl) dX0_init_1 ?_
  refine xaload_n C 0 rfl dX0_init_4 ?_
  refine xbipush (v := nI 24) C dX0_init_5 (by decide) ?_
  refine xnewIF C 24 (by decide) (Nat.le_of_ble_eq_true rfl) (Nat.le_of_ble_eq_true rfl) dX0_init_7 (fun q1 => ?_)
  refine xputF (ci := 4) (fs := [.null, .null, .null, .null, .null, .int 0, .int 0, .null, .int 0, .int 0]) (ws' := [(q1, .inl (t 0, 24, .inl (fun _ => 0))), (q0, .inr (4, [.null, .null, .null, .ref q1, .null, .int 0, .int 0, .null, .int 0, .int 0]))]) C 1 rfl rfl xin_wsX0 tyX0 tyX0_ok nmX0 3 (by decide) xfl_X0_9 rfl rfl hI (by rfl) (by rfl) (Nat.le_of_ble_eq_true rfl) dX0_init_9 rfl ?_
  refine xaload_n C 0 rfl dX0_init_12 ?_
  refine xbipush (v := nI 24) C dX0_init_13 (by decide) ?_
  refine xnewIF C 24 (by decide) (Nat.le_of_ble_eq_true rfl) (Nat.le_of_ble_eq_true rfl) dX0_init_15 (fun q2 => ?_)
  refine xputF (ci := 4) (fs := [.null, .null, .null, .ref q1, .null, .int 0, .int 0, .null, .int 0, .int 0]) (ws' := [(q2, .inl (t 0, 24, .inl (fun _ => 0))), (q1, .inl (t 0, 24, .inl (fun _ => 0))), (q0, .inr (4, [.null, .null, .null, .ref q1, .ref q2, .int 0, .int 0, .null, .int 0, .int 0]))]) C 2 rfl rfl xin_wsX0 tyX0 tyX0_ok nmX0 4 (by decide) xfl_X0_15 rfl rfl hI (by rfl) (by rfl) (Nat.le_of_ble_eq_true rfl) dX0_init_17 rfl ?_
  refine xaload_n C 0 rfl dX0_init_20 ?_
  refine xbipush (v := nI 24) C dX0_init_21 (by decide) ?_
  refine xnewIF C 24 (by decide) (Nat.le_of_ble_eq_true rfl) (Nat.le_of_ble_eq_true rfl) dX0_init_23 (fun q3 => ?_)
  refine xputF (ci := 4) (fs := [.null, .null, .null, .ref q1, .ref q2, .int 0, .int 0, .null, .int 0, .int 0]) (ws' := [(q3, .inl (t 0, 24, .inl (fun _ => 0))), (q2, .inl (t 0, 24, .inl (fun _ => 0))), (q1, .inl (t 0, 24, .inl (fun _ => 0))), (q0, .inr (4, [.null, .null, .null, .ref q1, .ref q2, .int 0, .int 0, .ref q3, .int 0, .int 0]))]) C 3 rfl rfl xin_wsX0 tyX0 tyX0_ok nmX0 7 (by decide) xfl_X0_18 rfl rfl hI (by rfl) (by rfl) (Nat.le_of_ble_eq_true rfl) dX0_init_25 rfl ?_
  refine xaload_n C 0 rfl dX0_init_28 ?_
  refine xiconst (v := 0) C dX0_init_29 (by decide) ?_
  refine xput (ci := 4) (fs := [.null, .null, .null, .ref q1, .ref q2, .int 0, .int 0, .ref q3, .int 0, .int 0]) (ws' := [(q3, .inl (t 0, 24, .inl (fun _ => 0))), (q2, .inl (t 0, 24, .inl (fun _ => 0))), (q1, .inl (t 0, 24, .inl (fun _ => 0))), (q0, .inr (4, [.null, .null, .null, .ref q1, .ref q2, .int 0, .int 0, .ref q3, .int 0, .int 0]))]) C 3 rfl rfl xin_wsX0 tyX0 tyX0_ok nmX0 9 (by decide) xfl_X0_21 rfl (by rfl) (by rfl) (Nat.le_of_ble_eq_true rfl) dX0_init_30 rfl ?_
  refine xaload_n C 0 rfl dX0_init_33 ?_
  refine xaload_n C 1 rfl dX0_init_34 ?_
  refine xputF (ci := 4) (fs := [.null, .null, .null, .ref q1, .ref q2, .int 0, .int 0, .ref q3, .int 0, .int 0]) (ws' := [(q3, .inl (t 0, 24, .inl (fun _ => 0))), (q2, .inl (t 0, 24, .inl (fun _ => 0))), (q1, .inl (t 0, 24, .inl (fun _ => 0))), (q0, .inr (4, [.ref x1, .null, .null, .ref q1, .ref q2, .int 0, .int 0, .ref q3, .int 0, .int 0]))]) C 3 rfl rfl xin_wsX0 tyX0 tyX0_ok nmX0 0 (by decide) xfl_X0_25 rfl rfl hI (by rfl) (by rfl) (Nat.le_of_ble_eq_true rfl) dX0_init_35 rfl ?_
  refine xaload_n C 0 rfl dX0_init_38 ?_
  refine xaload_n C 2 rfl dX0_init_39 ?_
  refine xputF (ci := 4) (fs := [.ref x1, .null, .null, .ref q1, .ref q2, .int 0, .int 0, .ref q3, .int 0, .int 0]) (ws' := [(q3, .inl (t 0, 24, .inl (fun _ => 0))), (q2, .inl (t 0, 24, .inl (fun _ => 0))), (q1, .inl (t 0, 24, .inl (fun _ => 0))), (q0, .inr (4, [.ref x1, .ref x2, .null, .ref q1, .ref q2, .int 0, .int 0, .ref q3, .int 0, .int 0]))]) C 3 rfl rfl xin_wsX0 tyX0 tyX0_ok nmX0 1 (by decide) xfl_X0_29 rfl rfl hI (by rfl) (by rfl) (Nat.le_of_ble_eq_true rfl) dX0_init_40 rfl ?_
  refine xaload_n C 0 rfl dX0_init_43 ?_
  refine xaload_n C 3 rfl dX0_init_44 ?_
  refine xputF (ci := 4) (fs := [.ref x1, .ref x2, .null, .ref q1, .ref q2, .int 0, .int 0, .ref q3, .int 0, .int 0]) (ws' := [(q3, .inl (t 0, 24, .inl (fun _ => 0))), (q2, .inl (t 0, 24, .inl (fun _ => 0))), (q1, .inl (t 0, 24, .inl (fun _ => 0))), (q0, .inr (4, [.ref x1, .ref x2, .ref x3, .ref q1, .ref q2, .int 0, .int 0, .ref q3, .int 0, .int 0]))]) C 3 rfl rfl xin_wsX0 tyX0 tyX0_ok nmX0 2 (by decide) xfl_X0_33 rfl rfl hI (by rfl) (by rfl) (Nat.le_of_ble_eq_true rfl) dX0_init_45 rfl ?_
  refine xwiden (k' := 3) (n' := 72) (Nat.le_of_ble_eq_true rfl) (Nat.le_of_ble_eq_true rfl) ?_
  exact xvret C hR dX0_init_48 ⟨rfl, q1, q2, q3, rfl⟩
theorem dX3_init_0 : decode cX3_init 0 = .ok (.aload_n 0, 1) := by decide +kernel
theorem dX3_init_1 : decode cX3_init 1 = .ok (.invokespecial 3, 3) := by decide +kernel
theorem dX3_init_4 : decode cX3_init 4 = .ok (.aload_n 0, 1) := by decide +kernel
theorem dX3_init_5 : decode cX3_init 5 = .ok (.bipush 24, 2) := by decide +kernel
theorem dX3_init_7 : decode cX3_init 7 = .ok (.newarray .int, 2) := by decide +kernel
theorem dX3_init_9 : decode cX3_init 9 = .ok (.putfield 9, 3) := by decide +kernel
theorem dX3_init_12 : decode cX3_init 12 = .ok (.aload_n 0, 1) := by decide +kernel
theorem dX3_init_13 : decode cX3_init 13 = .ok (.aload_n 1, 1) := by decide +kernel
theorem dX3_init_14 : decode cX3_init 14 = .ok (.putfield 15, 3) := by decide +kernel
theorem dX3_init_17 : decode cX3_init 17 = .ok (.aload_n 0, 1) := by decide +kernel
theorem dX3_init_18 : decode cX3_init 18 = .ok (.aload_n 2, 1) := by decide +kernel
theorem dX3_init_19 : decode cX3_init 19 = .ok (.putfield 19, 3) := by decide +kernel
theorem dX3_init_22 : decode cX3_init 22 = .ok (.return_, 1) := by decide +kernel
def rX3_init : Room := { frames := 1, cells := 1, slots := 24, locals := 20 }
set_option maxRecDepth 8000 in
theorem c_X3_init {l : Launch} {D : va_G} {t : Nat → ClassId} (q0 x1 x2 : Nat) : CT l D t yX3_init cX3_init 3 none rX3_init 1 24 [.ref q0, .ref x1, .ref x2] ([(q0, .inr (5, [.null, .null, .null]))]) (VP (fun w => ∃ (q1 : Nat), w = [(q1, .inl (t 0, 24, .inl (fun _ => 0))), (q0, .inr (5, [.ref x1, .ref x2, .ref q1]))])) := by
  refine CT.ofI (by decide +kernel) rfl (by simp [lg_sl, Value.category]) (fun X C hR hI => ?_)
  refine xlocals (lv' := [(0, .ref q0), (1, .ref x1), (2, .ref x2)]) rfl ?_
  refine xaload_n C 0 rfl dX3_init_0 ?_
  refine xobj C xml_X3_3 (Nat.le_of_ble_eq_true rfl) (Nat.le_of_ble_eq_true rfl) dX3_init_1 ?_
  refine xaload_n C 0 rfl dX3_init_4 ?_
  refine xbipush (v := nI 24) C dX3_init_5 (by decide) ?_
  refine xnewIF C 24 (by decide) (Nat.le_of_ble_eq_true rfl) (Nat.le_of_ble_eq_true rfl) dX3_init_7 (fun q1 => ?_)
  refine xputF (ci := 5) (fs := [.null, .null, .null]) (ws' := [(q1, .inl (t 0, 24, .inl (fun _ => 0))), (q0, .inr (5, [.null, .null, .ref q1]))]) C 1 rfl rfl xin_wsX3 tyX3 tyX3_ok nmX3 2 (by decide) xfl_X3_9 rfl rfl hI (by rfl) (by rfl) (Nat.le_of_ble_eq_true rfl) dX3_init_9 rfl ?_
  refine xaload_n C 0 rfl dX3_init_12 ?_
  refine xaload_n C 1 rfl dX3_init_13 ?_
  refine xputF (ci := 5) (fs := [.null, .null, .ref q1]) (ws' := [(q1, .inl (t 0, 24, .inl (fun _ => 0))), (q0, .inr (5, [.ref x1, .null, .ref q1]))]) C 1 rfl rfl xin_wsX3 tyX3 tyX3_ok nmX3 0 (by decide) xfl_X3_15 rfl rfl hI (by rfl) (by rfl) (Nat.le_of_ble_eq_true rfl) dX3_init_14 rfl ?_
  refine xaload_n C 0 rfl dX3_init_17 ?_
  refine xaload_n C 2 rfl dX3_init_18 ?_
  refine xputF (ci := 5) (fs := [.ref x1, .null, .ref q1]) (ws' := [(q1, .inl (t 0, 24, .inl (fun _ => 0))), (q0, .inr (5, [.ref x1, .ref x2, .ref q1]))]) C 1 rfl rfl xin_wsX3 tyX3 tyX3_ok nmX3 1 (by decide) xfl_X3_19 rfl rfl hI (by rfl) (by rfl) (Nat.le_of_ble_eq_true rfl) dX3_init_19 rfl ?_
  refine xwiden (k' := 1) (n' := 24) (Nat.le_of_ble_eq_true rfl) (Nat.le_of_ble_eq_true rfl) ?_
  exact xvret C hR dX3_init_22 ⟨rfl, q1, rfl⟩
theorem dX5_init_0 : decode cX5_init 0 = .ok (.aload_n 0, 1) := by decide +kernel
theorem dX5_init_1 : decode cX5_init 1 = .ok (.invokespecial 1, 3) := by decide +kernel
theorem dX5_init_4 : decode cX5_init 4 = .ok (.aload_n 0, 1) := by decide +kernel
theorem dX5_init_5 : decode cX5_init 5 = .ok (.new 7, 3) := by decide +kernel
theorem dX5_init_8 : decode cX5_init 8 = .ok (.dup, 1) := by decide +kernel
theorem dX5_init_9 : decode cX5_init 9 = .ok (.invokespecial 9, 3) := by decide +kernel
theorem dX5_init_12 : decode cX5_init 12 = .ok (.putfield 10, 3) := by decide +kernel
theorem dX5_init_15 : decode cX5_init 15 = .ok (.aload_n 0, 1) := by decide +kernel
theorem dX5_init_16 : decode cX5_init 16 = .ok (.new 16, 3) := by decide +kernel
theorem dX5_init_19 : decode cX5_init 19 = .ok (.dup, 1) := by decide +kernel
theorem dX5_init_20 : decode cX5_init 20 = .ok (.aload_n 0, 1) := by decide +kernel
theorem dX5_init_21 : decode cX5_init 21 = .ok (.getfield 10, 3) := by decide +kernel
theorem dX5_init_24 : decode cX5_init 24 = .ok (.invokespecial 18, 3) := by decide +kernel
theorem dX5_init_27 : decode cX5_init 27 = .ok (.putfield 21, 3) := by decide +kernel
theorem dX5_init_30 : decode cX5_init 30 = .ok (.aload_n 0, 1) := by decide +kernel
theorem dX5_init_31 : decode cX5_init 31 = .ok (.new 25, 3) := by decide +kernel
theorem dX5_init_34 : decode cX5_init 34 = .ok (.dup, 1) := by decide +kernel
theorem dX5_init_35 : decode cX5_init 35 = .ok (.aload_n 0, 1) := by decide +kernel
theorem dX5_init_36 : decode cX5_init 36 = .ok (.getfield 10, 3) := by decide +kernel
theorem dX5_init_39 : decode cX5_init 39 = .ok (.aload_n 0, 1) := by decide +kernel
theorem dX5_init_40 : decode cX5_init 40 = .ok (.getfield 21, 3) := by decide +kernel
theorem dX5_init_43 : decode cX5_init 43 = .ok (.invokespecial 27, 3) := by decide +kernel
theorem dX5_init_46 : decode cX5_init 46 = .ok (.putfield 30, 3) := by decide +kernel
theorem dX5_init_49 : decode cX5_init 49 = .ok (.aload_n 0, 1) := by decide +kernel
theorem dX5_init_50 : decode cX5_init 50 = .ok (.new 34, 3) := by decide +kernel
theorem dX5_init_53 : decode cX5_init 53 = .ok (.dup, 1) := by decide +kernel
theorem dX5_init_54 : decode cX5_init 54 = .ok (.aload_n 0, 1) := by decide +kernel
theorem dX5_init_55 : decode cX5_init 55 = .ok (.getfield 10, 3) := by decide +kernel
theorem dX5_init_58 : decode cX5_init 58 = .ok (.aload_n 0, 1) := by decide +kernel
theorem dX5_init_59 : decode cX5_init 59 = .ok (.getfield 21, 3) := by decide +kernel
theorem dX5_init_62 : decode cX5_init 62 = .ok (.aload_n 0, 1) := by decide +kernel
theorem dX5_init_63 : decode cX5_init 63 = .ok (.getfield 30, 3) := by decide +kernel
theorem dX5_init_66 : decode cX5_init 66 = .ok (.invokespecial 36, 3) := by decide +kernel
theorem dX5_init_69 : decode cX5_init 69 = .ok (.putfield 39, 3) := by decide +kernel
theorem dX5_init_72 : decode cX5_init 72 = .ok (.aload_n 0, 1) := by decide +kernel
theorem dX5_init_73 : decode cX5_init 73 = .ok (.new 43, 3) := by decide +kernel
theorem dX5_init_76 : decode cX5_init 76 = .ok (.dup, 1) := by decide +kernel
theorem dX5_init_77 : decode cX5_init 77 = .ok (.aload_n 0, 1) := by decide +kernel
theorem dX5_init_78 : decode cX5_init 78 = .ok (.getfield 10, 3) := by decide +kernel
theorem dX5_init_81 : decode cX5_init 81 = .ok (.aload_n 0, 1) := by decide +kernel
theorem dX5_init_82 : decode cX5_init 82 = .ok (.getfield 21, 3) := by decide +kernel
theorem dX5_init_85 : decode cX5_init 85 = .ok (.invokespecial 45, 3) := by decide +kernel
theorem dX5_init_88 : decode cX5_init 88 = .ok (.putfield 46, 3) := by decide +kernel
theorem dX5_init_91 : decode cX5_init 91 = .ok (.aload_n 0, 1) := by decide +kernel
theorem dX5_init_92 : decode cX5_init 92 = .ok (.bipush 24, 2) := by decide +kernel
theorem dX5_init_94 : decode cX5_init 94 = .ok (.newarray .int, 2) := by decide +kernel
theorem dX5_init_96 : decode cX5_init 96 = .ok (.putfield 50, 3) := by decide +kernel
theorem dX5_init_99 : decode cX5_init 99 = .ok (.aload_n 0, 1) := by decide +kernel
theorem dX5_init_100 : decode cX5_init 100 = .ok (.iconst 0, 1) := by decide +kernel
theorem dX5_init_101 : decode cX5_init 101 = .ok (.putfield 54, 3) := by decide +kernel
theorem dX5_init_104 : decode cX5_init 104 = .ok (.return_, 1) := by decide +kernel
def rX5_init : Room := { frames := 2, cells := 44, slots := 590, locals := 43 }
set_option maxRecDepth 8000 in
theorem c_X5_init {l : Launch} {D : va_G} {t : Nat → ClassId} (q0 : Nat) : CT l D t yX5_init cX5_init 1 none rX5_init 44 590 [.ref q0] ([(q0, .inr (0, [.null, .null, .null, .null, .null, .null, .int 0]))]) (VP (fun w => ∃ (q1 : Nat) (q2 : Nat) (q3 : Nat) (q4 : Nat) (q5 : Nat) (q6 : Nat) (r : Nat → Nat) (q7 : Nat) (q8 : Nat) (q9 : Nat) (q10 : Nat) (q11 : Nat) (q12 : Nat) (q13 : Nat) (q14 : Nat) (q15 : Nat) (q16 : Nat) (q17 : Nat) (q18 : Nat) (q19 : Nat) (q20 : Nat), w = [(q20, .inl (t 0, 24, .inl (fun _ => 0))), (q19, .inl (t 0, 24, .inl (fun _ => 0))), (q18, .inr (5, [.ref q1, .ref q9, .ref q19])), (q17, .inl (t 0, 24, .inl (fun _ => 0))), (q16, .inl (t 0, 24, .inl (fun _ => 0))), (q15, .inl (t 0, 24, .inl (fun _ => 0))), (q14, .inr (4, [.ref q1, .ref q9, .ref q12, .ref q15, .ref q16, .int 0, .int 0, .ref q17, .int 0, .int 0])), (q13, .inl (t 1, 6, .inr (.inl (fun _ => 0)))), (q12, .inr (3, [.ref q1, .ref q9, .ref q13])), (q11, .inl (t 0, 24, .inl (fun _ => 0))), (q10, .inl (t 0, 24, .inl (fun _ => 0))), (q9, .inr (2, [.ref q1, .ref q10, .ref q11, .int 0, .int 1, .int 1, .int 0])), (q0, .inr (0, [.ref q1, .ref q9, .ref q12, .ref q14, .ref q18, .ref q20, .int 0])), (q8, .inl (t 0, 60, .inl (fun _ => 0))), (q7, .inl (t 0, 60, .inl (fun _ => 0))), (q6, .inl (t 2, 24, .inr (.inr (.inr (.inr (fun i => if i < 24 then some (r i) else none)))))), (q5, .inl (t 0, 24, .inl (fun _ => 0))), (q4, .inl (t 0, 24, .inl (fun _ => 0))), (q3, .inl (t 0, 24, .inl (fun _ => 0))), (q2, .inl (t 0, 24, .inl (fun _ => 0))), (q1, .inr (1, [.ref q2, .ref q3, .ref q4, .ref q5, .ref q6, .ref q7, .ref q8, .int 0, .int 0]))] ++ M24 t r)) := by
  refine CT.ofI (by decide +kernel) rfl (by simp [lg_sl, Value.category]) (fun X C hR hI => ?_)
  refine xlocals (lv' := [(0, .ref q0)]) rfl ?_
  refine xaload_n C 0 rfl dX5_init_0 ?_
  refine xobj C xml_X5_1 (Nat.le_of_ble_eq_true rfl) (Nat.le_of_ble_eq_true rfl) dX5_init_1 ?_
  refine xaload_n C 0 rfl dX5_init_4 ?_
  refine xnewF (fs := [.null, .null, .null, .null, .null, .null, .null, .int 0, .int 0]) (ci := 1) C rfl xin_wsX1 tyX1 tyX1_ok xcl_X5_7 xit_X1 xin_X1 (fsX1) (Nat.le_of_ble_eq_true rfl) (Nat.le_of_ble_eq_true rfl) dX5_init_5 (fun q1 => ?_)
  refine xdup C dX5_init_8 rfl ?_
  refine xworld (ws' := [(q1, .inr (1, [.null, .null, .null, .null, .null, .null, .null, .int 0, .int 0]))] ++ ([(q0, .inr (0, [.null, .null, .null, .null, .null, .null, .int 0]))])) rfl ?_
  refine xcallIN (As := []) (rest := [.ref q1, .ref q0]) C (c_X1_init q1) (fun _ h => h.1.2) xim_X1_init xin_X1 rfl xco_X1_init ⟨by decide +kernel, by decide +kernel, (show (parseMethodDescriptor yX1_init.desc).map (fun d => d.parameters.length) = some 0 from by decide +kernel)⟩ ⟨Nat.le_of_ble_eq_true rfl, Nat.le_of_ble_eq_true rfl⟩ ⟨rfl, rfl⟩ ⟨Nat.le_of_ble_eq_true rfl, Nat.le_of_ble_eq_true rfl⟩ rfl (Nat.le_of_ble_eq_true rfl) dX5_init_9 (fun vE wE hE => ?_)
  obtain ⟨rfl, q2, q3, q4, q5, q6, r, q7, q8, rfl⟩ := hE
  refine xrot ?_
  refine xworld (ws' := [(q0, .inr (0, [.null, .null, .null, .null, .null, .null, .int 0])), (q8, .inl (t 0, 60, .inl (fun _ => 0))), (q7, .inl (t 0, 60, .inl (fun _ => 0))), (q6, .inl (t 2, 24, .inr (.inr (.inr (.inr (fun i => if i < 24 then some (r i) else none)))))), (q5, .inl (t 0, 24, .inl (fun _ => 0))), (q4, .inl (t 0, 24, .inl (fun _ => 0))), (q3, .inl (t 0, 24, .inl (fun _ => 0))), (q2, .inl (t 0, 24, .inl (fun _ => 0))), (q1, .inr (1, [.ref q2, .ref q3, .ref q4, .ref q5, .ref q6, .ref q7, .ref q8, .int 0, .int 0]))] ++ M24 t r) rfl ?_
  refine xputF (ci := 0) (fs := [.null, .null, .null, .null, .null, .null, .int 0]) (ws' := [(q0, .inr (0, [.ref q1, .null, .null, .null, .null, .null, .int 0])), (q8, .inl (t 0, 60, .inl (fun _ => 0))), (q7, .inl (t 0, 60, .inl (fun _ => 0))), (q6, .inl (t 2, 24, .inr (.inr (.inr (.inr (fun i => if i < 24 then some (r i) else none)))))), (q5, .inl (t 0, 24, .inl (fun _ => 0))), (q4, .inl (t 0, 24, .inl (fun _ => 0))), (q3, .inl (t 0, 24, .inl (fun _ => 0))), (q2, .inl (t 0, 24, .inl (fun _ => 0))), (q1, .inr (1, [.ref q2, .ref q3, .ref q4, .ref q5, .ref q6, .ref q7, .ref q8, .int 0, .int 0]))] ++ M24 t r) C 0 rfl rfl xin_wsX5 tyX5 tyX5_ok nmX5 0 (by decide) xfl_X5_10 rfl rfl hI (by rfl) (by rfl) (Nat.le_of_ble_eq_true rfl) dX5_init_12 rfl ?_
  refine xaload_n C 0 rfl dX5_init_15 ?_
  refine xnewF (fs := [.null, .null, .null, .int 0, .int 0, .int 0, .int 0]) (ci := 2) C rfl xin_wsX2 tyX2 tyX2_ok xcl_X5_16 xit_X2 xin_X2 (fsX2) (Nat.le_of_ble_eq_true rfl) (Nat.le_of_ble_eq_true rfl) dX5_init_16 (fun q9 => ?_)
  refine xdup C dX5_init_19 rfl ?_
  refine xaload_n C 0 rfl dX5_init_20 ?_
  refine xget C 1 rfl rfl xin_wsX5 0 (by decide) xfl_X5_10 rfl dX5_init_21 ?_
  refine xworld (ws' := [(q9, .inr (2, [.null, .null, .null, .int 0, .int 0, .int 0, .int 0]))] ++ ([(q0, .inr (0, [.ref q1, .null, .null, .null, .null, .null, .int 0])), (q8, .inl (t 0, 60, .inl (fun _ => 0))), (q7, .inl (t 0, 60, .inl (fun _ => 0))), (q6, .inl (t 2, 24, .inr (.inr (.inr (.inr (fun i => if i < 24 then some (r i) else none)))))), (q5, .inl (t 0, 24, .inl (fun _ => 0))), (q4, .inl (t 0, 24, .inl (fun _ => 0))), (q3, .inl (t 0, 24, .inl (fun _ => 0))), (q2, .inl (t 0, 24, .inl (fun _ => 0))), (q1, .inr (1, [.ref q2, .ref q3, .ref q4, .ref q5, .ref q6, .ref q7, .ref q8, .int 0, .int 0]))] ++ M24 t r)) rfl ?_
  refine xcallI (As := [.ref q1]) (rest := [.ref q9, .ref q0]) C (c_X2_init q9 q1) xml_X5_18 xim_X2_init xin_X2 rfl xco_X2_init ⟨by decide +kernel, by decide +kernel, (show (parseMethodDescriptor yX2_init.desc).map (fun d => d.parameters.length) = some 1 from by decide +kernel)⟩ ⟨Nat.le_of_ble_eq_true rfl, Nat.le_of_ble_eq_true rfl⟩ ⟨rfl, rfl⟩ ⟨Nat.le_of_ble_eq_true rfl, Nat.le_of_ble_eq_true rfl⟩ rfl (Nat.le_of_ble_eq_true rfl) dX5_init_24 (fun vE wE hE => ?_)
  obtain ⟨rfl, q10, q11, rfl⟩ := hE
  refine xworld (ws' := [(q11, .inl (t 0, 24, .inl (fun _ => 0))), (q10, .inl (t 0, 24, .inl (fun _ => 0))), (q9, .inr (2, [.ref q1, .ref q10, .ref q11, .int 0, .int 1, .int 1, .int 0])), (q0, .inr (0, [.ref q1, .null, .null, .null, .null, .null, .int 0])), (q8, .inl (t 0, 60, .inl (fun _ => 0))), (q7, .inl (t 0, 60, .inl (fun _ => 0))), (q6, .inl (t 2, 24, .inr (.inr (.inr (.inr (fun i => if i < 24 then some (r i) else none)))))), (q5, .inl (t 0, 24, .inl (fun _ => 0))), (q4, .inl (t 0, 24, .inl (fun _ => 0))), (q3, .inl (t 0, 24, .inl (fun _ => 0))), (q2, .inl (t 0, 24, .inl (fun _ => 0))), (q1, .inr (1, [.ref q2, .ref q3, .ref q4, .ref q5, .ref q6, .ref q7, .ref q8, .int 0, .int 0]))] ++ M24 t r) rfl ?_
  refine xputF (ci := 0) (fs := [.ref q1, .null, .null, .null, .null, .null, .int 0]) (ws' := [(q11, .inl (t 0, 24, .inl (fun _ => 0))), (q10, .inl (t 0, 24, .inl (fun _ => 0))), (q9, .inr (2, [.ref q1, .ref q10, .ref q11, .int 0, .int 1, .int 1, .int 0])), (q0, .inr (0, [.ref q1, .ref q9, .null, .null, .null, .null, .int 0])), (q8, .inl (t 0, 60, .inl (fun _ => 0))), (q7, .inl (t 0, 60, .inl (fun _ => 0))), (q6, .inl (t 2, 24, .inr (.inr (.inr (.inr (fun i => if i < 24 then some (r i) else none)))))), (q5, .inl (t 0, 24, .inl (fun _ => 0))), (q4, .inl (t 0, 24, .inl (fun _ => 0))), (q3, .inl (t 0, 24, .inl (fun _ => 0))), (q2, .inl (t 0, 24, .inl (fun _ => 0))), (q1, .inr (1, [.ref q2, .ref q3, .ref q4, .ref q5, .ref q6, .ref q7, .ref q8, .int 0, .int 0]))] ++ M24 t r) C 3 rfl rfl xin_wsX5 tyX5 tyX5_ok nmX5 1 (by decide) xfl_X5_21 rfl rfl hI (by rfl) (by rfl) (Nat.le_of_ble_eq_true rfl) dX5_init_27 rfl ?_
  refine xaload_n C 0 rfl dX5_init_30 ?_
  refine xnewF (fs := [.null, .null, .null]) (ci := 3) C rfl xin_wsX4 tyX4 tyX4_ok xcl_X5_25 xit_X4 xin_X4 (fsX4) (Nat.le_of_ble_eq_true rfl) (Nat.le_of_ble_eq_true rfl) dX5_init_31 (fun q12 => ?_)
  refine xdup C dX5_init_34 rfl ?_
  refine xaload_n C 0 rfl dX5_init_35 ?_
  refine xget C 4 rfl rfl xin_wsX5 0 (by decide) xfl_X5_10 rfl dX5_init_36 ?_
  refine xaload_n C 0 rfl dX5_init_39 ?_
  refine xget C 4 rfl rfl xin_wsX5 1 (by decide) xfl_X5_21 rfl dX5_init_40 ?_
  refine xworld (ws' := [(q12, .inr (3, [.null, .null, .null]))] ++ ([(q11, .inl (t 0, 24, .inl (fun _ => 0))), (q10, .inl (t 0, 24, .inl (fun _ => 0))), (q9, .inr (2, [.ref q1, .ref q10, .ref q11, .int 0, .int 1, .int 1, .int 0])), (q0, .inr (0, [.ref q1, .ref q9, .null, .null, .null, .null, .int 0])), (q8, .inl (t 0, 60, .inl (fun _ => 0))), (q7, .inl (t 0, 60, .inl (fun _ => 0))), (q6, .inl (t 2, 24, .inr (.inr (.inr (.inr (fun i => if i < 24 then some (r i) else none)))))), (q5, .inl (t 0, 24, .inl (fun _ => 0))), (q4, .inl (t 0, 24, .inl (fun _ => 0))), (q3, .inl (t 0, 24, .inl (fun _ => 0))), (q2, .inl (t 0, 24, .inl (fun _ => 0))), (q1, .inr (1, [.ref q2, .ref q3, .ref q4, .ref q5, .ref q6, .ref q7, .ref q8, .int 0, .int 0]))] ++ M24 t r)) rfl ?_
  refine xcallI (As := [.ref q1, .ref q9]) (rest := [.ref q12, .ref q0]) C (c_X4_init q12 q1 q9) xml_X5_27 xim_X4_init xin_X4 rfl xco_X4_init ⟨by decide +kernel, by decide +kernel, (show (parseMethodDescriptor yX4_init.desc).map (fun d => d.parameters.length) = some 2 from by decide +kernel)⟩ ⟨Nat.le_of_ble_eq_true rfl, Nat.le_of_ble_eq_true rfl⟩ ⟨rfl, rfl⟩ ⟨Nat.le_of_ble_eq_true rfl, Nat.le_of_ble_eq_true rfl⟩ rfl (Nat.le_of_ble_eq_true rfl) dX5_init_43 (fun vE wE hE => ?_)
  obtain ⟨rfl, q13, rfl⟩ := hE
  refine xworld (ws' := [(q13, .inl (t 1, 6, .inr (.inl (fun _ => 0)))), (q12, .inr (3, [.ref q1, .ref q9, .ref q13])), (q11, .inl (t 0, 24, .inl (fun _ => 0))), (q10, .inl (t 0, 24, .inl (fun _ => 0))), (q9, .inr (2, [.ref q1, .ref q10, .ref q11, .int 0, .int 1, .int 1, .int 0])), (q0, .inr (0, [.ref q1, .ref q9, .null, .null, .null, .null, .int 0])), (q8, .inl (t 0, 60, .inl (fun _ => 0))), (q7, .inl (t 0, 60, .inl (fun _ => 0))), (q6, .inl (t 2, 24, .inr (.inr (.inr (.inr (fun i => if i < 24 then some (r i) else none)))))), (q5, .inl (t 0, 24, .inl (fun _ => 0))), (q4, .inl (t 0, 24, .inl (fun _ => 0))), (q3, .inl (t 0, 24, .inl (fun _ => 0))), (q2, .inl (t 0, 24, .inl (fun _ => 0))), (q1, .inr (1, [.ref q2, .ref q3, .ref q4, .ref q5, .ref q6, .ref q7, .ref q8, .int 0, .int 0]))] ++ M24 t r) rfl ?_
  refine xputF (ci := 0) (fs := [.ref q1, .ref q9, .null, .null, .null, .null, .int 0]) (ws' := [(q13, .inl (t 1, 6, .inr (.inl (fun _ => 0)))), (q12, .inr (3, [.ref q1, .ref q9, .ref q13])), (q11, .inl (t 0, 24, .inl (fun _ => 0))), (q10, .inl (t 0, 24, .inl (fun _ => 0))), (q9, .inr (2, [.ref q1, .ref q10, .ref q11, .int 0, .int 1, .int 1, .int 0])), (q0, .inr (0, [.ref q1, .ref q9, .ref q12, .null, .null, .null, .int 0])), (q8, .inl (t 0, 60, .inl (fun _ => 0))), (q7, .inl (t 0, 60, .inl (fun _ => 0))), (q6, .inl (t 2, 24, .inr (.inr (.inr (.inr (fun i => if i < 24 then some (r i) else none)))))), (q5, .inl (t 0, 24, .inl (fun _ => 0))), (q4, .inl (t 0, 24, .inl (fun _ => 0))), (q3, .inl (t 0, 24, .inl (fun _ => 0))), (q2, .inl (t 0, 24, .inl (fun _ => 0))), (q1, .inr (1, [.ref q2, .ref q3, .ref q4, .ref q5, .ref q6, .ref q7, .ref q8, .int 0, .int 0]))] ++ M24 t r) C 5 rfl rfl xin_wsX5 tyX5 tyX5_ok nmX5 2 (by decide) xfl_X5_30 rfl rfl hI (by rfl) (by rfl) (Nat.le_of_ble_eq_true rfl) dX5_init_46 rfl ?_
  refine xaload_n C 0 rfl dX5_init_49 ?_
  refine xnewF (fs := [.null, .null, .null, .null, .null, .int 0, .int 0, .null, .int 0, .int 0]) (ci := 4) C rfl xin_wsX0 tyX0 tyX0_ok xcl_X5_34 xit_X0 xin_X0 (fsX0) (Nat.le_of_ble_eq_true rfl) (Nat.le_of_ble_eq_true rfl) dX5_init_50 (fun q14 => ?_)
  refine xdup C dX5_init_53 rfl ?_
  refine xaload_n C 0 rfl dX5_init_54 ?_
  refine xget C 6 rfl rfl xin_wsX5 0 (by decide) xfl_X5_10 rfl dX5_init_55 ?_
  refine xaload_n C 0 rfl dX5_init_58 ?_
  refine xget C 6 rfl rfl xin_wsX5 1 (by decide) xfl_X5_21 rfl dX5_init_59 ?_
  refine xaload_n C 0 rfl dX5_init_62 ?_
  refine xget C 6 rfl rfl xin_wsX5 2 (by decide) xfl_X5_30 rfl dX5_init_63 ?_
  refine xworld (ws' := [(q14, .inr (4, [.null, .null, .null, .null, .null, .int 0, .int 0, .null, .int 0, .int 0]))] ++ ([(q13, .inl (t 1, 6, .inr (.inl (fun _ => 0)))), (q12, .inr (3, [.ref q1, .ref q9, .ref q13])), (q11, .inl (t 0, 24, .inl (fun _ => 0))), (q10, .inl (t 0, 24, .inl (fun _ => 0))), (q9, .inr (2, [.ref q1, .ref q10, .ref q11, .int 0, .int 1, .int 1, .int 0])), (q0, .inr (0, [.ref q1, .ref q9, .ref q12, .null, .null, .null, .int 0])), (q8, .inl (t 0, 60, .inl (fun _ => 0))), (q7, .inl (t 0, 60, .inl (fun _ => 0))), (q6, .inl (t 2, 24, .inr (.inr (.inr (.inr (fun i => if i < 24 then some (r i) else none)))))), (q5, .inl (t 0, 24, .inl (fun _ => 0))), (q4, .inl (t 0, 24, .inl (fun _ => 0))), (q3, .inl (t 0, 24, .inl (fun _ => 0))), (q2, .inl (t 0, 24, .inl (fun _ => 0))), (q1, .inr (1, [.ref q2, .ref q3, .ref q4, .ref q5, .ref q6, .ref q7, .ref q8, .int 0, .int 0]))] ++ M24 t r)) rfl ?_
  refine xcallI (As := [.ref q1, .ref q9, .ref q12]) (rest := [.ref q14, .ref q0]) C (c_X0_init q14 q1 q9 q12) xml_X5_36 xim_X0_init xin_X0 rfl xco_X0_init ⟨by decide +kernel, by decide +kernel, (show (parseMethodDescriptor yX0_init.desc).map (fun d => d.parameters.length) = some 3 from by decide +kernel)⟩ ⟨Nat.le_of_ble_eq_true rfl, Nat.le_of_ble_eq_true rfl⟩ ⟨rfl, rfl⟩ ⟨Nat.le_of_ble_eq_true rfl, Nat.le_of_ble_eq_true rfl⟩ rfl (Nat.le_of_ble_eq_true rfl) dX5_init_66 (fun vE wE hE => ?_)
  obtain ⟨rfl, q15, q16, q17, rfl⟩ := hE
  refine xworld (ws' := [(q17, .inl (t 0, 24, .inl (fun _ => 0))), (q16, .inl (t 0, 24, .inl (fun _ => 0))), (q15, .inl (t 0, 24, .inl (fun _ => 0))), (q14, .inr (4, [.ref q1, .ref q9, .ref q12, .ref q15, .ref q16, .int 0, .int 0, .ref q17, .int 0, .int 0])), (q13, .inl (t 1, 6, .inr (.inl (fun _ => 0)))), (q12, .inr (3, [.ref q1, .ref q9, .ref q13])), (q11, .inl (t 0, 24, .inl (fun _ => 0))), (q10, .inl (t 0, 24, .inl (fun _ => 0))), (q9, .inr (2, [.ref q1, .ref q10, .ref q11, .int 0, .int 1, .int 1, .int 0])), (q0, .inr (0, [.ref q1, .ref q9, .ref q12, .null, .null, .null, .int 0])), (q8, .inl (t 0, 60, .inl (fun _ => 0))), (q7, .inl (t 0, 60, .inl (fun _ => 0))), (q6, .inl (t 2, 24, .inr (.inr (.inr (.inr (fun i => if i < 24 then some (r i) else none)))))), (q5, .inl (t 0, 24, .inl (fun _ => 0))), (q4, .inl (t 0, 24, .inl (fun _ => 0))), (q3, .inl (t 0, 24, .inl (fun _ => 0))), (q2, .inl (t 0, 24, .inl (fun _ => 0))), (q1, .inr (1, [.ref q2, .ref q3, .ref q4, .ref q5, .ref q6, .ref q7, .ref q8, .int 0, .int 0]))] ++ M24 t r) rfl ?_
  refine xputF (ci := 0) (fs := [.ref q1, .ref q9, .ref q12, .null, .null, .null, .int 0]) (ws' := [(q17, .inl (t 0, 24, .inl (fun _ => 0))), (q16, .inl (t 0, 24, .inl (fun _ => 0))), (q15, .inl (t 0, 24, .inl (fun _ => 0))), (q14, .inr (4, [.ref q1, .ref q9, .ref q12, .ref q15, .ref q16, .int 0, .int 0, .ref q17, .int 0, .int 0])), (q13, .inl (t 1, 6, .inr (.inl (fun _ => 0)))), (q12, .inr (3, [.ref q1, .ref q9, .ref q13])), (q11, .inl (t 0, 24, .inl (fun _ => 0))), (q10, .inl (t 0, 24, .inl (fun _ => 0))), (q9, .inr (2, [.ref q1, .ref q10, .ref q11, .int 0, .int 1, .int 1, .int 0])), (q0, .inr (0, [.ref q1, .ref q9, .ref q12, .ref q14, .null, .null, .int 0])), (q8, .inl (t 0, 60, .inl (fun _ => 0))), (q7, .inl (t 0, 60, .inl (fun _ => 0))), (q6, .inl (t 2, 24, .inr (.inr (.inr (.inr (fun i => if i < 24 then some (r i) else none)))))), (q5, .inl (t 0, 24, .inl (fun _ => 0))), (q4, .inl (t 0, 24, .inl (fun _ => 0))), (q3, .inl (t 0, 24, .inl (fun _ => 0))), (q2, .inl (t 0, 24, .inl (fun _ => 0))), (q1, .inr (1, [.ref q2, .ref q3, .ref q4, .ref q5, .ref q6, .ref q7, .ref q8, .int 0, .int 0]))] ++ M24 t r) C 9 rfl rfl xin_wsX5 tyX5 tyX5_ok nmX5 3 (by decide) xfl_X5_39 rfl rfl hI (by rfl) (by rfl) (Nat.le_of_ble_eq_true rfl) dX5_init_69 rfl ?_
  refine xaload_n C 0 rfl dX5_init_72 ?_
  refine xnewF (fs := [.null, .null, .null]) (ci := 5) C rfl xin_wsX3 tyX3 tyX3_ok xcl_X5_43 xit_X3 xin_X3 (fsX3) (Nat.le_of_ble_eq_true rfl) (Nat.le_of_ble_eq_true rfl) dX5_init_73 (fun q18 => ?_)
  refine xdup C dX5_init_76 rfl ?_
  refine xaload_n C 0 rfl dX5_init_77 ?_
  refine xget C 10 rfl rfl xin_wsX5 0 (by decide) xfl_X5_10 rfl dX5_init_78 ?_
  refine xaload_n C 0 rfl dX5_init_81 ?_
  refine xget C 10 rfl rfl xin_wsX5 1 (by decide) xfl_X5_21 rfl dX5_init_82 ?_
  refine xworld (ws' := [(q18, .inr (5, [.null, .null, .null]))] ++ ([(q17, .inl (t 0, 24, .inl (fun _ => 0))), (q16, .inl (t 0, 24, .inl (fun _ => 0))), (q15, .inl (t 0, 24, .inl (fun _ => 0))), (q14, .inr (4, [.ref q1, .ref q9, .ref q12, .ref q15, .ref q16, .int 0, .int 0, .ref q17, .int 0, .int 0])), (q13, .inl (t 1, 6, .inr (.inl (fun _ => 0)))), (q12, .inr (3, [.ref q1, .ref q9, .ref q13])), (q11, .inl (t 0, 24, .inl (fun _ => 0))), (q10, .inl (t 0, 24, .inl (fun _ => 0))), (q9, .inr (2, [.ref q1, .ref q10, .ref q11, .int 0, .int 1, .int 1, .int 0])), (q0, .inr (0, [.ref q1, .ref q9, .ref q12, .ref q14, .null, .null, .int 0])), (q8, .inl (t 0, 60, .inl (fun _ => 0))), (q7, .inl (t 0, 60, .inl (fun _ => 0))), (q6, .inl (t 2, 24, .inr (.inr (.inr (.inr (fun i => if i < 24 then some (r i) else none)))))), (q5, .inl (t 0, 24, .inl (fun _ => 0))), (q4, .inl (t 0, 24, .inl (fun _ => 0))), (q3, .inl (t 0, 24, .inl (fun _ => 0))), (q2, .inl (t 0, 24, .inl (fun _ => 0))), (q1, .inr (1, [.ref q2, .ref q3, .ref q4, .ref q5, .ref q6, .ref q7, .ref q8, .int 0, .int 0]))] ++ M24 t r)) rfl ?_
  refine xcallI (As := [.ref q1, .ref q9]) (rest := [.ref q18, .ref q0]) C (c_X3_init q18 q1 q9) xml_X5_45 xim_X3_init xin_X3 rfl xco_X3_init ⟨by decide +kernel, by decide +kernel, (show (parseMethodDescriptor yX3_init.desc).map (fun d => d.parameters.length) = some 2 from by decide +kernel)⟩ ⟨Nat.le_of_ble_eq_true rfl, Nat.le_of_ble_eq_true rfl⟩ ⟨rfl, rfl⟩ ⟨Nat.le_of_ble_eq_true rfl, Nat.le_of_ble_eq_true rfl⟩ rfl (Nat.le_of_ble_eq_true rfl) dX5_init_85 (fun vE wE hE => ?_)
  obtain ⟨rfl, q19, rfl⟩ := hE
  refine xworld (ws' := [(q19, .inl (t 0, 24, .inl (fun _ => 0))), (q18, .inr (5, [.ref q1, .ref q9, .ref q19])), (q17, .inl (t 0, 24, .inl (fun _ => 0))), (q16, .inl (t 0, 24, .inl (fun _ => 0))), (q15, .inl (t 0, 24, .inl (fun _ => 0))), (q14, .inr (4, [.ref q1, .ref q9, .ref q12, .ref q15, .ref q16, .int 0, .int 0, .ref q17, .int 0, .int 0])), (q13, .inl (t 1, 6, .inr (.inl (fun _ => 0)))), (q12, .inr (3, [.ref q1, .ref q9, .ref q13])), (q11, .inl (t 0, 24, .inl (fun _ => 0))), (q10, .inl (t 0, 24, .inl (fun _ => 0))), (q9, .inr (2, [.ref q1, .ref q10, .ref q11, .int 0, .int 1, .int 1, .int 0])), (q0, .inr (0, [.ref q1, .ref q9, .ref q12, .ref q14, .null, .null, .int 0])), (q8, .inl (t 0, 60, .inl (fun _ => 0))), (q7, .inl (t 0, 60, .inl (fun _ => 0))), (q6, .inl (t 2, 24, .inr (.inr (.inr (.inr (fun i => if i < 24 then some (r i) else none)))))), (q5, .inl (t 0, 24, .inl (fun _ => 0))), (q4, .inl (t 0, 24, .inl (fun _ => 0))), (q3, .inl (t 0, 24, .inl (fun _ => 0))), (q2, .inl (t 0, 24, .inl (fun _ => 0))), (q1, .inr (1, [.ref q2, .ref q3, .ref q4, .ref q5, .ref q6, .ref q7, .ref q8, .int 0, .int 0]))] ++ M24 t r) rfl ?_
  refine xputF (ci := 0) (fs := [.ref q1, .ref q9, .ref q12, .ref q14, .null, .null, .int 0]) (ws' := [(q19, .inl (t 0, 24, .inl (fun _ => 0))), (q18, .inr (5, [.ref q1, .ref q9, .ref q19])), (q17, .inl (t 0, 24, .inl (fun _ => 0))), (q16, .inl (t 0, 24, .inl (fun _ => 0))), (q15, .inl (t 0, 24, .inl (fun _ => 0))), (q14, .inr (4, [.ref q1, .ref q9, .ref q12, .ref q15, .ref q16, .int 0, .int 0, .ref q17, .int 0, .int 0])), (q13, .inl (t 1, 6, .inr (.inl (fun _ => 0)))), (q12, .inr (3, [.ref q1, .ref q9, .ref q13])), (q11, .inl (t 0, 24, .inl (fun _ => 0))), (q10, .inl (t 0, 24, .inl (fun _ => 0))), (q9, .inr (2, [.ref q1, .ref q10, .ref q11, .int 0, .int 1, .int 1, .int 0])), (q0, .inr (0, [.ref q1, .ref q9, .ref q12, .ref q14, .ref q18, .null, .int 0])), (q8, .inl (t 0, 60, .inl (fun _ => 0))), (q7, .inl (t 0, 60, .inl (fun _ => 0))), (q6, .inl (t 2, 24, .inr (.inr (.inr (.inr (fun i => if i < 24 then some (r i) else none)))))), (q5, .inl (t 0, 24, .inl (fun _ => 0))), (q4, .inl (t 0, 24, .inl (fun _ => 0))), (q3, .inl (t 0, 24, .inl (fun _ => 0))), (q2, .inl (t 0, 24, .inl (fun _ => 0))), (q1, .inr (1, [.ref q2, .ref q3, .ref q4, .ref q5, .ref q6, .ref q7, .ref q8, .int 0, .int 0]))] ++ M24 t r) C 11 rfl rfl xin_wsX5 tyX5 tyX5_ok nmX5 4 (by decide) xfl_X5_46 rfl rfl hI (by rfl) (by rfl) (Nat.le_of_ble_eq_true rfl) dX5_init_88 rfl ?_
  refine xaload_n C 0 rfl dX5_init_91 ?_
  refine xbipush (v := nI 24) C dX5_init_92 (by decide) ?_
  refine xnewIF C 24 (by decide) (Nat.le_of_ble_eq_true rfl) (Nat.le_of_ble_eq_true rfl) dX5_init_94 (fun q20 => ?_)
  refine xputF (ci := 0) (fs := [.ref q1, .ref q9, .ref q12, .ref q14, .ref q18, .null, .int 0]) (ws' := [(q20, .inl (t 0, 24, .inl (fun _ => 0))), (q19, .inl (t 0, 24, .inl (fun _ => 0))), (q18, .inr (5, [.ref q1, .ref q9, .ref q19])), (q17, .inl (t 0, 24, .inl (fun _ => 0))), (q16, .inl (t 0, 24, .inl (fun _ => 0))), (q15, .inl (t 0, 24, .inl (fun _ => 0))), (q14, .inr (4, [.ref q1, .ref q9, .ref q12, .ref q15, .ref q16, .int 0, .int 0, .ref q17, .int 0, .int 0])), (q13, .inl (t 1, 6, .inr (.inl (fun _ => 0)))), (q12, .inr (3, [.ref q1, .ref q9, .ref q13])), (q11, .inl (t 0, 24, .inl (fun _ => 0))), (q10, .inl (t 0, 24, .inl (fun _ => 0))), (q9, .inr (2, [.ref q1, .ref q10, .ref q11, .int 0, .int 1, .int 1, .int 0])), (q0, .inr (0, [.ref q1, .ref q9, .ref q12, .ref q14, .ref q18, .ref q20, .int 0])), (q8, .inl (t 0, 60, .inl (fun _ => 0))), (q7, .inl (t 0, 60, .inl (fun _ => 0))), (q6, .inl (t 2, 24, .inr (.inr (.inr (.inr (fun i => if i < 24 then some (r i) else none)))))), (q5, .inl (t 0, 24, .inl (fun _ => 0))), (q4, .inl (t 0, 24, .inl (fun _ => 0))), (q3, .inl (t 0, 24, .inl (fun _ => 0))), (q2, .inl (t 0, 24, .inl (fun _ => 0))), (q1, .inr (1, [.ref q2, .ref q3, .ref q4, .ref q5, .ref q6, .ref q7, .ref q8, .int 0, .int 0]))] ++ M24 t r) C 12 rfl rfl xin_wsX5 tyX5 tyX5_ok nmX5 5 (by decide) xfl_X5_50 rfl rfl hI (by rfl) (by rfl) (Nat.le_of_ble_eq_true rfl) dX5_init_96 rfl ?_
  refine xaload_n C 0 rfl dX5_init_99 ?_
  refine xiconst (v := 0) C dX5_init_100 (by decide) ?_
  refine xput (ci := 0) (fs := [.ref q1, .ref q9, .ref q12, .ref q14, .ref q18, .ref q20, .int 0]) (ws' := [(q20, .inl (t 0, 24, .inl (fun _ => 0))), (q19, .inl (t 0, 24, .inl (fun _ => 0))), (q18, .inr (5, [.ref q1, .ref q9, .ref q19])), (q17, .inl (t 0, 24, .inl (fun _ => 0))), (q16, .inl (t 0, 24, .inl (fun _ => 0))), (q15, .inl (t 0, 24, .inl (fun _ => 0))), (q14, .inr (4, [.ref q1, .ref q9, .ref q12, .ref q15, .ref q16, .int 0, .int 0, .ref q17, .int 0, .int 0])), (q13, .inl (t 1, 6, .inr (.inl (fun _ => 0)))), (q12, .inr (3, [.ref q1, .ref q9, .ref q13])), (q11, .inl (t 0, 24, .inl (fun _ => 0))), (q10, .inl (t 0, 24, .inl (fun _ => 0))), (q9, .inr (2, [.ref q1, .ref q10, .ref q11, .int 0, .int 1, .int 1, .int 0])), (q0, .inr (0, [.ref q1, .ref q9, .ref q12, .ref q14, .ref q18, .ref q20, .int 0])), (q8, .inl (t 0, 60, .inl (fun _ => 0))), (q7, .inl (t 0, 60, .inl (fun _ => 0))), (q6, .inl (t 2, 24, .inr (.inr (.inr (.inr (fun i => if i < 24 then some (r i) else none)))))), (q5, .inl (t 0, 24, .inl (fun _ => 0))), (q4, .inl (t 0, 24, .inl (fun _ => 0))), (q3, .inl (t 0, 24, .inl (fun _ => 0))), (q2, .inl (t 0, 24, .inl (fun _ => 0))), (q1, .inr (1, [.ref q2, .ref q3, .ref q4, .ref q5, .ref q6, .ref q7, .ref q8, .int 0, .int 0]))] ++ M24 t r) C 12 rfl rfl xin_wsX5 tyX5 tyX5_ok nmX5 6 (by decide) xfl_X5_54 rfl (by rfl) (by rfl) (Nat.le_of_ble_eq_true rfl) dX5_init_101 rfl ?_
  refine xwiden (k' := 44) (n' := 590) (Nat.le_of_ble_eq_true rfl) (Nat.le_of_ble_eq_true rfl) ?_
  exact xvret C hR dX5_init_104 ⟨rfl, q1, q2, q3, q4, q5, q6, r, q7, q8, q9, q10, q11, q12, q13, q14, q15, q16, q17, q18, q19, q20, rfl⟩
theorem dX6_init_0 : decode cX6_init 0 = .ok (.aload_n 0, 1) := by decide +kernel
theorem dX6_init_1 : decode cX6_init 1 = .ok (.invokespecial 1, 3) := by decide +kernel
theorem dX6_init_4 : decode cX6_init 4 = .ok (.aload_n 0, 1) := by decide +kernel
theorem dX6_init_5 : decode cX6_init 5 = .ok (.bipush 24, 2) := by decide +kernel
theorem dX6_init_7 : decode cX6_init 7 = .ok (.newarray .int, 2) := by decide +kernel
theorem dX6_init_9 : decode cX6_init 9 = .ok (.putfield 7, 3) := by decide +kernel
theorem dX6_init_12 : decode cX6_init 12 = .ok (.aload_n 0, 1) := by decide +kernel
theorem dX6_init_13 : decode cX6_init 13 = .ok (.bipush 24, 2) := by decide +kernel
theorem dX6_init_15 : decode cX6_init 15 = .ok (.newarray .int, 2) := by decide +kernel
theorem dX6_init_17 : decode cX6_init 17 = .ok (.putfield 13, 3) := by decide +kernel
theorem dX6_init_20 : decode cX6_init 20 = .ok (.aload_n 0, 1) := by decide +kernel
theorem dX6_init_21 : decode cX6_init 21 = .ok (.bipush 24, 2) := by decide +kernel
theorem dX6_init_23 : decode cX6_init 23 = .ok (.newarray .int, 2) := by decide +kernel
theorem dX6_init_25 : decode cX6_init 25 = .ok (.putfield 16, 3) := by decide +kernel
theorem dX6_init_28 : decode cX6_init 28 = .ok (.aload_n 0, 1) := by decide +kernel
theorem dX6_init_29 : decode cX6_init 29 = .ok (.bipush 24, 2) := by decide +kernel
theorem dX6_init_31 : decode cX6_init 31 = .ok (.newarray .int, 2) := by decide +kernel
theorem dX6_init_33 : decode cX6_init 33 = .ok (.putfield 19, 3) := by decide +kernel
theorem dX6_init_36 : decode cX6_init 36 = .ok (.aload_n 0, 1) := by decide +kernel
theorem dX6_init_37 : decode cX6_init 37 = .ok (.sipush 144, 3) := by decide +kernel
theorem dX6_init_40 : decode cX6_init 40 = .ok (.newarray .int, 2) := by decide +kernel
theorem dX6_init_42 : decode cX6_init 42 = .ok (.putfield 22, 3) := by decide +kernel
theorem dX6_init_45 : decode cX6_init 45 = .ok (.aload_n 0, 1) := by decide +kernel
theorem dX6_init_46 : decode cX6_init 46 = .ok (.bipush 60, 2) := by decide +kernel
theorem dX6_init_48 : decode cX6_init 48 = .ok (.newarray .int, 2) := by decide +kernel
theorem dX6_init_50 : decode cX6_init 50 = .ok (.putfield 25, 3) := by decide +kernel
theorem dX6_init_53 : decode cX6_init 53 = .ok (.aload_n 0, 1) := by decide +kernel
theorem dX6_init_54 : decode cX6_init 54 = .ok (.bipush 60, 2) := by decide +kernel
theorem dX6_init_56 : decode cX6_init 56 = .ok (.newarray .int, 2) := by decide +kernel
theorem dX6_init_58 : decode cX6_init 58 = .ok (.putfield 28, 3) := by decide +kernel
theorem dX6_init_61 : decode cX6_init 61 = .ok (.aload_n 0, 1) := by decide +kernel
theorem dX6_init_62 : decode cX6_init 62 = .ok (.iconst 1, 1) := by decide +kernel
theorem dX6_init_63 : decode cX6_init 63 = .ok (.putfield 31, 3) := by decide +kernel
theorem dX6_init_66 : decode cX6_init 66 = .ok (.aload_n 0, 1) := by decide +kernel
theorem dX6_init_67 : decode cX6_init 67 = .ok (.iconst 1, 1) := by decide +kernel
theorem dX6_init_68 : decode cX6_init 68 = .ok (.putfield 35, 3) := by decide +kernel
theorem dX6_init_71 : decode cX6_init 71 = .ok (.aload_n 0, 1) := by decide +kernel
theorem dX6_init_72 : decode cX6_init 72 = .ok (.bipush 24, 2) := by decide +kernel
theorem dX6_init_74 : decode cX6_init 74 = .ok (.newarray .int, 2) := by decide +kernel
theorem dX6_init_76 : decode cX6_init 76 = .ok (.putfield 38, 3) := by decide +kernel
theorem dX6_init_79 : decode cX6_init 79 = .ok (.aload_n 0, 1) := by decide +kernel
theorem dX6_init_80 : decode cX6_init 80 = .ok (.bipush 24, 2) := by decide +kernel
theorem dX6_init_82 : decode cX6_init 82 = .ok (.newarray .int, 2) := by decide +kernel
theorem dX6_init_84 : decode cX6_init 84 = .ok (.putfield 41, 3) := by decide +kernel
theorem dX6_init_87 : decode cX6_init 87 = .ok (.aload_n 0, 1) := by decide +kernel
theorem dX6_init_88 : decode cX6_init 88 = .ok (.bipush 24, 2) := by decide +kernel
theorem dX6_init_90 : decode cX6_init 90 = .ok (.newarray .int, 2) := by decide +kernel
theorem dX6_init_92 : decode cX6_init 92 = .ok (.putfield 44, 3) := by decide +kernel
theorem dX6_init_95 : decode cX6_init 95 = .ok (.aload_n 0, 1) := by decide +kernel
theorem dX6_init_96 : decode cX6_init 96 = .ok (.bipush 24, 2) := by decide +kernel
theorem dX6_init_98 : decode cX6_init 98 = .ok (.newarray .int, 2) := by decide +kernel
theorem dX6_init_100 : decode cX6_init 100 = .ok (.putfield 47, 3) := by decide +kernel
theorem dX6_init_103 : decode cX6_init 103 = .ok (.aload_n 0, 1) := by decide +kernel
theorem dX6_init_104 : decode cX6_init 104 = .ok (.bipush 24, 2) := by decide +kernel
theorem dX6_init_106 : decode cX6_init 106 = .ok (.newarray .int, 2) := by decide +kernel
theorem dX6_init_108 : decode cX6_init 108 = .ok (.putfield 50, 3) := by decide +kernel
theorem dX6_init_111 : decode cX6_init 111 = .ok (.return_, 1) := by decide +kernel
def rX6_init : Room := { frames := 1, cells := 12, slots := 480, locals := 20 }
set_option maxRecDepth 8000 in
theorem c_X6_init {l : Launch} {D : va_G} {t : Nat → ClassId} (q0 : Nat) : CT l D t yX6_init cX6_init 1 none rX6_init 12 480 [.ref q0] ([(q0, .inr (6, [.int 0, .null, .null, .null, .null, .null, .int 0, .null, .null, .int 0, .int 0, .int 0, .int 0, .null, .null, .null, .null, .null, .int 0, .int 0, .int 0]))]) (VP (fun w => ∃ (q1 : Nat) (q2 : Nat) (q3 : Nat) (q4 : Nat) (q5 : Nat) (q6 : Nat) (q7 : Nat) (q8 : Nat) (q9 : Nat) (q10 : Nat) (q11 : Nat) (q12 : Nat), w = [(q12, .inl (t 0, 24, .inl (fun _ => 0))), (q11, .inl (t 0, 24, .inl (fun _ => 0))), (q10, .inl (t 0, 24, .inl (fun _ => 0))), (q9, .inl (t 0, 24, .inl (fun _ => 0))), (q8, .inl (t 0, 24, .inl (fun _ => 0))), (q7, .inl (t 0, 60, .inl (fun _ => 0))), (q6, .inl (t 0, 60, .inl (fun _ => 0))), (q5, .inl (t 0, 144, .inl (fun _ => 0))), (q4, .inl (t 0, 24, .inl (fun _ => 0))), (q3, .inl (t 0, 24, .inl (fun _ => 0))), (q2, .inl (t 0, 24, .inl (fun _ => 0))), (q1, .inl (t 0, 24, .inl (fun _ => 0))), (q0, .inr (6, [.int 0, .ref q1, .ref q2, .ref q3, .ref q4, .ref q5, .int 0, .ref q6, .ref q7, .int 0, .int 1, .int 1, .int 0, .ref q8, .ref q9, .ref q10, .ref q11, .ref q12, .int 0, .int 0, .int 0]))])) := by
  refine CT.ofI (by decide +kernel) rfl (by simp [lg_sl, Value.category]) (fun X C hR hI => ?_)
  refine xlocals (lv' := [(0, .ref q0)]) rfl ?_
  refine xaload_n C 0 rfl dX6_init_0 ?_
  refine xobj C xml_X6_1 (Nat.le_of_ble_eq_true rfl) (Nat.le_of_ble_eq_true rfl) dX6_init_1 ?_
  refine xaload_n C 0 rfl dX6_init_4 ?_
  refine xbipush (v := nI 24) C dX6_init_5 (by decide) ?_
  refine xnewIF C 24 (by decide) (Nat.le_of_ble_eq_true rfl) (Nat.le_of_ble_eq_true rfl) dX6_init_7 (fun q1 => ?_)
  refine xputF (ci := 6) (fs := [.int 0, .null, .null, .null, .null, .null, .int 0, .null, .null, .int 0, .int 0, .int 0, .int 0, .null, .null, .null, .null, .null, .int 0, .int 0, .int 0]) (ws' := [(q1, .inl (t 0, 24, .inl (fun _ => 0))), (q0, .inr (6, [.int 0, .ref q1, .null, .null, .null, .null, .int 0, .null, .null, .int 0, .int 0, .int 0, .int 0, .null, .null, .null, .null, .null, .int 0, .int 0, .int 0]))]) C 1 rfl rfl xin_wsX6 tyX6 tyX6_ok nmX6 1 (by decide) xfl_X6_7 rfl rfl hI (by rfl) (by rfl) (Nat.le_of_ble_eq_true rfl) dX6_init_9 rfl ?_
  refine xaload_n C 0 rfl dX6_init_12 ?_
  refine xbipush (v := nI 24) C dX6_init_13 (by decide) ?_
  refine xnewIF C 24 (by decide) (Nat.le_of_ble_eq_true rfl) (Nat.le_of_ble_eq_true rfl) dX6_init_15 (fun q2 => ?_)
  refine xputF (ci := 6) (fs := [.int 0, .ref q1, .null, .null, .null, .null, .int 0, .null, .null, .int 0, .int 0, .int 0, .int 0, .null, .null, .null, .null, .null, .int 0, .int 0, .int 0]) (ws' := [(q2, .inl (t 0, 24, .inl (fun _ => 0))), (q1, .inl (t 0, 24, .inl (fun _ => 0))), (q0, .inr (6, [.int 0, .ref q1, .ref q2, .null, .null, .null, .int 0, .null, .null, .int 0, .int 0, .int 0, .int 0, .null, .null, .null, .null, .null, .int 0, .int 0, .int 0]))]) C 2 rfl rfl xin_wsX6 tyX6 tyX6_ok nmX6 2 (by decide) xfl_X6_13 rfl rfl hI (by rfl) (by rfl) (Nat.le_of_ble_eq_true rfl) dX6_init_17 rfl ?_
  refine xaload_n C 0 rfl dX6_init_20 ?_
  refine xbipush (v := nI 24) C dX6_init_21 (by decide) ?_
  refine xnewIF C 24 (by decide) (Nat.le_of_ble_eq_true rfl) (Nat.le_of_ble_eq_true rfl) dX6_init_23 (fun q3 => ?_)
  refine xputF (ci := 6) (fs := [.int 0, .ref q1, .ref q2, .null, .null, .null, .int 0, .null, .null, .int 0, .int 0, .int 0, .int 0, .null, .null, .null, .null, .null, .int 0, .int 0, .int 0]) (ws' := [(q3, .inl (t 0, 24, .inl (fun _ => 0))), (q2, .inl (t 0, 24, .inl (fun _ => 0))), (q1, .inl (t 0, 24, .inl (fun _ => 0))), (q0, .inr (6, [.int 0, .ref q1, .ref q2, .ref q3, .null, .null, .int 0, .null, .null, .int 0, .int 0, .int 0, .int 0, .null, .null, .null, .null, .null, .int 0, .int 0, .int 0]))]) C 3 rfl rfl xin_wsX6 tyX6 tyX6_ok nmX6 3 (by decide) xfl_X6_16 rfl rfl hI (by rfl) (by rfl) (Nat.le_of_ble_eq_true rfl) dX6_init_25 rfl ?_
  refine xaload_n C 0 rfl dX6_init_28 ?_
  refine xbipush (v := nI 24) C dX6_init_29 (by decide) ?_
  refine xnewIF C 24 (by decide) (Nat.le_of_ble_eq_true rfl) (Nat.le_of_ble_eq_true rfl) dX6_init_31 (fun q4 => ?_)
  refine xputF (ci := 6) (fs := [.int 0, .ref q1, .ref q2, .ref q3, .null, .null, .int 0, .null, .null, .int 0, .int 0, .int 0, .int 0, .null, .null, .null, .null, .null, .int 0, .int 0, .int 0]) (ws' := [(q4, .inl (t 0, 24, .inl (fun _ => 0))), (q3, .inl (t 0, 24, .inl (fun _ => 0))), (q2, .inl (t 0, 24, .inl (fun _ => 0))), (q1, .inl (t 0, 24, .inl (fun _ => 0))), (q0, .inr (6, [.int 0, .ref q1, .ref q2, .ref q3, .ref q4, .null, .int 0, .null, .null, .int 0, .int 0, .int 0, .int 0, .null, .null, .null, .null, .null, .int 0, .int 0, .int 0]))]) C 4 rfl rfl xin_wsX6 tyX6 tyX6_ok nmX6 4 (by decide) xfl_X6_19 rfl rfl hI (by rfl) (by rfl) (Nat.le_of_ble_eq_true rfl) dX6_init_33 rfl ?_
  refine xaload_n C 0 rfl dX6_init_36 ?_
  refine xsipush (v := nI 144) C dX6_init_37 (by decide) ?_
  refine xnewIF C 144 (by decide) (Nat.le_of_ble_eq_true rfl) (Nat.le_of_ble_eq_true rfl) dX6_init_40 (fun q5 => ?_)
  refine xputF (ci := 6) (fs := [.int 0, .ref q1, .ref q2, .ref q3, .ref q4, .null, .int 0, .null, .null, .int 0, .int 0, .int 0, .int 0, .null, .null, .null, .null, .null, .int 0, .int 0, .int 0]) (ws' := [(q5, .inl (t 0, 144, .inl (fun _ => 0))), (q4, .inl (t 0, 24, .inl (fun _ => 0))), (q3, .inl (t 0, 24, .inl (fun _ => 0))), (q2, .inl (t 0, 24, .inl (fun _ => 0))), (q1, .inl (t 0, 24, .inl (fun _ => 0))), (q0, .inr (6, [.int 0, .ref q1, .ref q2, .ref q3, .ref q4, .ref q5, .int 0, .null, .null, .int 0, .int 0, .int 0, .int 0, .null, .null, .null, .null, .null, .int 0, .int 0, .int 0]))]) C 5 rfl rfl xin_wsX6 tyX6 tyX6_ok nmX6 5 (by decide) xfl_X6_22 rfl rfl hI (by rfl) (by rfl) (Nat.le_of_ble_eq_true rfl) dX6_init_42 rfl ?_
  refine xaload_n C 0 rfl dX6_init_45 ?_
  refine xbipush (v := nI 60) C dX6_init_46 (by decide) ?_
  refine xnewIF C 60 (by decide) (Nat.le_of_ble_eq_true rfl) (Nat.le_of_ble_eq_true rfl) dX6_init_48 (fun q6 => ?_)
  refine xputF (ci := 6) (fs := [.int 0, .ref q1, .ref q2, .ref q3, .ref q4, .ref q5, .int 0, .null, .null, .int 0, .int 0, .int 0, .int 0, .null, .null, .null, .null, .null, .int 0, .int 0, .int 0]) (ws' := [(q6, .inl (t 0, 60, .inl (fun _ => 0))), (q5, .inl (t 0, 144, .inl (fun _ => 0))), (q4, .inl (t 0, 24, .inl (fun _ => 0))), (q3, .inl (t 0, 24, .inl (fun _ => 0))), (q2, .inl (t 0, 24, .inl (fun _ => 0))), (q1, .inl (t 0, 24, .inl (fun _ => 0))), (q0, .inr (6, [.int 0, .ref q1, .ref q2, .ref q3, .ref q4, .ref q5, .int 0, .ref q6, .null, .int 0, .int 0, .int 0, .int 0, .null, .null, .null, .null, .null, .int 0, .int 0, .int 0]))]) C 6 rfl rfl xin_wsX6 tyX6 tyX6_ok nmX6 7 (by decide) xfl_X6_25 rfl rfl hI (by rfl) (by rfl) (Nat.le_of_ble_eq_true rfl) dX6_init_50 rfl ?_
  refine xaload_n C 0 rfl dX6_init_53 ?_
  refine xbipush (v := nI 60) C dX6_init_54 (by decide) ?_
  refine xnewIF C 60 (by decide) (Nat.le_of_ble_eq_true rfl) (Nat.le_of_ble_eq_true rfl) dX6_init_56 (fun q7 => ?_)
  refine xputF (ci := 6) (fs := [.int 0, .ref q1, .ref q2, .ref q3, .ref q4, .ref q5, .int 0, .ref q6, .null, .int 0, .int 0, .int 0, .int 0, .null, .null, .null, .null, .null, .int 0, .int 0, .int 0]) (ws' := [(q7, .inl (t 0, 60, .inl (fun _ => 0))), (q6, .inl (t 0, 60, .inl (fun _ => 0))), (q5, .inl (t 0, 144, .inl (fun _ => 0))), (q4, .inl (t 0, 24, .inl (fun _ => 0))), (q3, .inl (t 0, 24, .inl (fun _ => 0))), (q2, .inl (t 0, 24, .inl (fun _ => 0))), (q1, .inl (t 0, 24, .inl (fun _ => 0))), (q0, .inr (6, [.int 0, .ref q1, .ref q2, .ref q3, .ref q4, .ref q5, .int 0, .ref q6, .ref q7, .int 0, .int 0, .int 0, .int 0, .null, .null, .null, .null, .null, .int 0, .int 0, .int 0]))]) C 7 rfl rfl xin_wsX6 tyX6 tyX6_ok nmX6 8 (by decide) xfl_X6_28 rfl rfl hI (by rfl) (by rfl) (Nat.le_of_ble_eq_true rfl) dX6_init_58 rfl ?_
  refine xaload_n C 0 rfl dX6_init_61 ?_
  refine xiconst (v := 1) C dX6_init_62 (by decide) ?_
  refine xput (ci := 6) (fs := [.int 0, .ref q1, .ref q2, .ref q3, .ref q4, .ref q5, .int 0, .ref q6, .ref q7, .int 0, .int 0, .int 0, .int 0, .null, .null, .null, .null, .null, .int 0, .int 0, .int 0]) (ws' := [(q7, .inl (t 0, 60, .inl (fun _ => 0))), (q6, .inl (t 0, 60, .inl (fun _ => 0))), (q5, .inl (t 0, 144, .inl (fun _ => 0))), (q4, .inl (t 0, 24, .inl (fun _ => 0))), (q3, .inl (t 0, 24, .inl (fun _ => 0))), (q2, .inl (t 0, 24, .inl (fun _ => 0))), (q1, .inl (t 0, 24, .inl (fun _ => 0))), (q0, .inr (6, [.int 0, .ref q1, .ref q2, .ref q3, .ref q4, .ref q5, .int 0, .ref q6, .ref q7, .int 0, .int 1, .int 0, .int 0, .null, .null, .null, .null, .null, .int 0, .int 0, .int 0]))]) C 7 rfl rfl xin_wsX6 tyX6 tyX6_ok nmX6 10 (by decide) xfl_X6_31 rfl (by rfl) (by rfl) (Nat.le_of_ble_eq_true rfl) dX6_init_63 rfl ?_
  refine xaload_n C 0 rfl dX6_init_66 ?_
  refine xiconst (v := 1) C dX6_init_67 (by decide) ?_
  refine xput (ci := 6) (fs := [.int 0, .ref q1, .ref q2, .ref q3, .ref q4, .ref q5, .int 0, .ref q6, .ref q7, .int 0, .int 1, .int 0, .int 0, .null, .null, .null, .null, .null, .int 0, .int 0, .int 0]) (ws' := [(q7, .inl (t 0, 60, .inl (fun _ => 0))), (q6, .inl (t 0, 60, .inl (fun _ => 0))), (q5, .inl (t 0, 144, .inl (fun _ => 0))), (q4, .inl (t 0, 24, .inl (fun _ => 0))), (q3, .inl (t 0, 24, .inl (fun _ => 0))), (q2, .inl (t 0, 24, .inl (fun _ => 0))), (q1, .inl (t 0, 24, .inl (fun _ => 0))), (q0, .inr (6, [.int 0, .ref q1, .ref q2, .ref q3, .ref q4, .ref q5, .int 0, .ref q6, .ref q7, .int 0, .int 1, .int 1, .int 0, .null, .null, .null, .null, .null, .int 0, .int 0, .int 0]))]) C 7 rfl rfl xin_wsX6 tyX6 tyX6_ok nmX6 11 (by decide) xfl_X6_35 rfl (by rfl) (by rfl) (Nat.le_of_ble_eq_true rfl) dX6_init_68 rfl ?_
  refine xaload_n C 0 rfl dX6_init_71 ?_
  refine xbipush (v := nI 24) C dX6_init_72 (by decide) ?_
  refine xnewIF C 24 (by decide) (Nat.le_of_ble_eq_true rfl) (Nat.le_of_ble_eq_true rfl) dX6_init_74 (fun q8 => ?_)
  refine xputF (ci := 6) (fs := [.int 0, .ref q1, .ref q2, .ref q3, .ref q4, .ref q5, .int 0, .ref q6, .ref q7, .int 0, .int 1, .int 1, .int 0, .null, .null, .null, .null, .null, .int 0, .int 0, .int 0]) (ws' := [(q8, .inl (t 0, 24, .inl (fun _ => 0))), (q7, .inl (t 0, 60, .inl (fun _ => 0))), (q6, .inl (t 0, 60, .inl (fun _ => 0))), (q5, .inl (t 0, 144, .inl (fun _ => 0))), (q4, .inl (t 0, 24, .inl (fun _ => 0))), (q3, .inl (t 0, 24, .inl (fun _ => 0))), (q2, .inl (t 0, 24, .inl (fun _ => 0))), (q1, .inl (t 0, 24, .inl (fun _ => 0))), (q0, .inr (6, [.int 0, .ref q1, .ref q2, .ref q3, .ref q4, .ref q5, .int 0, .ref q6, .ref q7, .int 0, .int 1, .int 1, .int 0, .ref q8, .null, .null, .null, .null, .int 0, .int 0, .int 0]))]) C 8 rfl rfl xin_wsX6 tyX6 tyX6_ok nmX6 13 (by decide) xfl_X6_38 rfl rfl hI (by rfl) (by rfl) (Nat.le_of_ble_eq_true rfl) dX6_init_76 rfl ?_
  refine xaload_n C 0 rfl dX6_init_79 ?_
  refine xbipush (v := nI 24) C dX6_init_80 (by decide) ?_
  refine xnewIF C 24 (by decide) (Nat.le_of_ble_eq_true rfl) (Nat.le_of_ble_eq_true rfl) dX6_init_82 (fun q9 => ?_)
  refine xputF (ci := 6) (fs := [.int 0, .ref q1, .ref q2, .ref q3, .ref q4, .ref q5, .int 0, .ref q6, .ref q7, .int 0, .int 1, .int 1, .int 0, .ref q8, .null, .null, .null, .null, .int 0, .int 0, .int 0]) (ws' := [(q9, .inl (t 0, 24, .inl (fun _ => 0))), (q8, .inl (t 0, 24, .inl (fun _ => 0))), (q7, .inl (t 0, 60, .inl (fun _ => 0))), (q6, .inl (t 0, 60, .inl (fun _ => 0))), (q5, .inl (t 0, 144, .inl (fun _ => 0))), (q4, .inl (t 0, 24, .inl (fun _ => 0))), (q3, .inl (t 0, 24, .inl (fun _ => 0))), (q2, .inl (t 0, 24, .inl (fun _ => 0))), (q1, .inl (t 0, 24, .inl (fun _ => 0))), (q0, .inr (6, [.int 0, .ref q1, .ref q2, .ref q3, .ref q4, .ref q5, .int 0, .ref q6, .ref q7, .int 0, .int 1, .int 1, .int 0, .ref q8, .ref q9, .null, .null, .null, .int 0, .int 0, .int 0]))]) C 9 rfl rfl xin_wsX6 tyX6 tyX6_ok nmX6 14 (by decide) xfl_X6_41 rfl rfl hI (by rfl) (by rfl) (Nat.le_of_ble_eq_true rfl) dX6_init_84 rfl ?_
  refine xaload_n C 0 rfl dX6_init_87 ?_
  refine xbipush (v := nI 24) C dX6_init_88 (by decide) ?_
  refine xnewIF C 24 (by decide) (Nat.le_of_ble_eq_true rfl) (Nat.le_of_ble_eq_true rfl) dX6_init_90 (fun q10 => ?_)
  refine xputF (ci := 6) (fs := [.int 0, .ref q1, .ref q2, .ref q3, .ref q4, .ref q5, .int 0, .ref q6, .ref q7, .int 0, .int 1, .int 1, .int 0, .ref q8, .ref q9, .null, .null, .null, .int 0, .int 0, .int 0]) (ws' := [(q10, .inl (t 0, 24, .inl (fun _ => 0))), (q9, .inl (t 0, 24, .inl (fun _ => 0))), (q8, .inl (t 0, 24, .inl (fun _ => 0))), (q7, .inl (t 0, 60, .inl (fun _ => 0))), (q6, .inl (t 0, 60, .inl (fun _ => 0))), (q5, .inl (t 0, 144, .inl (fun _ => 0))), (q4, .inl (t 0, 24, .inl (fun _ => 0))), (q3, .inl (t 0, 24, .inl (fun _ => 0))), (q2, .inl (t 0, 24, .inl (fun _ => 0))), (q1, .inl (t 0, 24, .inl (fun _ => 0))), (q0, .inr (6, [.int 0, .ref q1, .ref q2, .ref q3, .ref q4, .ref q5, .int 0, .ref q6, .ref q7, .int 0, .int 1, .int 1, .int 0, .ref q8, .ref q9, .ref q10, .null, .null, .int 0, .int 0, .int 0]))]) C 10 rfl rfl xin_wsX6 tyX6 tyX6_ok nmX6 15 (by decide) xfl_X6_44 rfl rfl hI (by rfl) (by rfl) (Nat.le_of_ble_eq_true rfl) dX6_init_92 rfl ?_
  refine xaload_n C 0 rfl dX6_init_95 ?_
  refine xbipush (v := nI 24) C dX6_init_96 (by decide) ?_
  refine xnewIF C 24 (by decide) (Nat.le_of_ble_eq_true rfl) (Nat.le_of_ble_eq_true rfl) dX6_init_98 (fun q11 => ?_)
  refine xputF (ci := 6) (fs := [.int 0, .ref q1, .ref q2, .ref q3, .ref q4, .ref q5, .int 0, .ref q6, .ref q7, .int 0, .int 1, .int 1, .int 0, .ref q8, .ref q9, .ref q10, .null, .null, .int 0, .int 0, .int 0]) (ws' := [(q11, .inl (t 0, 24, .inl (fun _ => 0))), (q10, .inl (t 0, 24, .inl (fun _ => 0))), (q9, .inl (t 0, 24, .inl (fun _ => 0))), (q8, .inl (t 0, 24, .inl (fun _ => 0))), (q7, .inl (t 0, 60, .inl (fun _ => 0))), (q6, .inl (t 0, 60, .inl (fun _ => 0))), (q5, .inl (t 0, 144, .inl (fun _ => 0))), (q4, .inl (t 0, 24, .inl (fun _ => 0))), (q3, .inl (t 0, 24, .inl (fun _ => 0))), (q2, .inl (t 0, 24, .inl (fun _ => 0))), (q1, .inl (t 0, 24, .inl (fun _ => 0))), (q0, .inr (6, [.int 0, .ref q1, .ref q2, .ref q3, .ref q4, .ref q5, .int 0, .ref q6, .ref q7, .int 0, .int 1, .int 1, .int 0, .ref q8, .ref q9, .ref q10, .ref q11, .null, .int 0, .int 0, .int 0]))]) C 11 rfl rfl xin_wsX6 tyX6 tyX6_ok nmX6 16 (by decide) xfl_X6_47 rfl rfl hI (by rfl) (by rfl) (Nat.le_of_ble_eq_true rfl) dX6_init_100 rfl ?_
  refine xaload_n C 0 rfl dX6_init_103 ?_
  refine xbipush (v := nI 24) C dX6_init_104 (by decide) ?_
  refine xnewIF C 24 (by decide) (Nat.le_of_ble_eq_true rfl) (Nat.le_of_ble_eq_true rfl) dX6_init_106 (fun q12 => ?_)
  refine xputF (ci := 6) (fs := [.int 0, .ref q1, .ref q2, .ref q3, .ref q4, .ref q5, .int 0, .ref q6, .ref q7, .int 0, .int 1, .int 1, .int 0, .ref q8, .ref q9, .ref q10, .ref q11, .null, .int 0, .int 0, .int 0]) (ws' := [(q12, .inl (t 0, 24, .inl (fun _ => 0))), (q11, .inl (t 0, 24, .inl (fun _ => 0))), (q10, .inl (t 0, 24, .inl (fun _ => 0))), (q9, .inl (t 0, 24, .inl (fun _ => 0))), (q8, .inl (t 0, 24, .inl (fun _ => 0))), (q7, .inl (t 0, 60, .inl (fun _ => 0))), (q6, .inl (t 0, 60, .inl (fun _ => 0))), (q5, .inl (t 0, 144, .inl (fun _ => 0))), (q4, .inl (t 0, 24, .inl (fun _ => 0))), (q3, .inl (t 0, 24, .inl (fun _ => 0))), (q2, .inl (t 0, 24, .inl (fun _ => 0))), (q1, .inl (t 0, 24, .inl (fun _ => 0))), (q0, .inr (6, [.int 0, .ref q1, .ref q2, .ref q3, .ref q4, .ref q5, .int 0, .ref q6, .ref q7, .int 0, .int 1, .int 1, .int 0, .ref q8, .ref q9, .ref q10, .ref q11, .ref q12, .int 0, .int 0, .int 0]))]) C 12 rfl rfl xin_wsX6 tyX6 tyX6_ok nmX6 17 (by decide) xfl_X6_50 rfl rfl hI (by rfl) (by rfl) (Nat.le_of_ble_eq_true rfl) dX6_init_108 rfl ?_
  refine xwiden (k' := 12) (n' := 480) (Nat.le_of_ble_eq_true rfl) (Nat.le_of_ble_eq_true rfl) ?_
  exact xvret C hR dX6_init_111 ⟨rfl, q1, q2, q3, q4, q5, q6, q7, q8, q9, q10, q11, q12, rfl⟩
