abbrev zC (cy : Nat → ClassId) : zT := [(cy 0, .int), (cy 1, .long), (cy 2, .object RX1)]
abbrev zM (cy : Nat → ClassId) : zT := [(cy 0, .int), (cy 1, .long), (cy 2, .char)]
theorem z_ent {l : Launch} {D : va_G} {tys : zT} {M : xM} {pc : Nat} {ls ls0 : List (Option Value)} {st : List Value} {ws : va_W} {kc ks : Nat} {Q : va_W → Prop} (h : ls0 = ls) (k : Zx l D tys M pc ls st ws kc ks Q) : Zx l D tys M pc ls0 st ws kc ks Q := h ▸ k
def mX1_init : xM := (yX1_init, cX1_init, 1, none, { frames := 1, cells := 1, slots := 40, locals := 20 })
theorem df_X1 : ∀ j, j < 3 → defaultValue (tyX1 j) = vp_V [.int 0, .int 0, .null] j := by
  intro j hj
  match j, hj with
  | 0, _ => rfl
  | 1, _ => rfl
  | 2, _ => rfl
  | j + 3, hj => exact absurd hj (by omega)
theorem nX1_init : plainName (xy mX1_init).cls = true ∧ xret mX1_init = none ∧ 1 ≤ xnL mX1_init ∧ (xy mX1_init).name = "<init>" ∧ Cond.initialized (xy mX1_init).cls ∈ gt ∧ Cond.code (xy mX1_init) (xcc mX1_init) (xnL mX1_init) none ∈ gt ∧ Cond.instanceMethod (xy mX1_init) ∈ gt ∧ ((xy mX1_init).cls ≠ "java/lang/invoke/MethodHandle" ∧ (xy mX1_init).cls ≠ "java/lang/invoke/VarHandle" ∧ (parseMethodDescriptor (xy mX1_init).desc).map (fun d => d.parameters.length) = some 0) := ⟨by decide, rfl, by decide, rfl, in_X1, co_X1_init, im_X1_init, by decide, by decide, by decide +kernel⟩
def mX2_init : xM := (yX2_init, cX2_init, 1, none, { frames := 1, cells := 1, slots := 120, locals := 20 })
theorem df_X2 : ∀ j, j < 6 → defaultValue (tyX2 j) = vp_V [.null, .int 0, .int 0, .int 0, .int 0, .int 0] j := by
  intro j hj
  match j, hj with
  | 0, _ => rfl
  | 1, _ => rfl
  | 2, _ => rfl
  | 3, _ => rfl
  | 4, _ => rfl
  | 5, _ => rfl
  | j + 6, hj => exact absurd hj (by omega)
theorem nX2_init : plainName (xy mX2_init).cls = true ∧ xret mX2_init = none ∧ 1 ≤ xnL mX2_init ∧ (xy mX2_init).name = "<init>" ∧ Cond.initialized (xy mX2_init).cls ∈ gt ∧ Cond.code (xy mX2_init) (xcc mX2_init) (xnL mX2_init) none ∈ gt ∧ Cond.instanceMethod (xy mX2_init) ∈ gt ∧ ((xy mX2_init).cls ≠ "java/lang/invoke/MethodHandle" ∧ (xy mX2_init).cls ≠ "java/lang/invoke/VarHandle" ∧ (parseMethodDescriptor (xy mX2_init).desc).map (fun d => d.parameters.length) = some 0) := ⟨by decide, rfl, by decide, rfl, in_X2, co_X2_init, im_X2_init, by decide, by decide, by decide +kernel⟩
def mX3_init : xM := (yX3_init, cX3_init, 1, none, { frames := 1, cells := 5, slots := 144, locals := 20 })
theorem df_X3 : ∀ j, j < 8 → defaultValue (tyX3 j) = vp_V [.int 0, .int 0, .int 0, .null, .null, .null, .null, .null] j := by
  intro j hj
  match j, hj with
  | 0, _ => rfl
  | 1, _ => rfl
  | 2, _ => rfl
  | 3, _ => rfl
  | 4, _ => rfl
  | 5, _ => rfl
  | 6, _ => rfl
  | 7, _ => rfl
  | j + 8, hj => exact absurd hj (by omega)
theorem nX3_init : plainName (xy mX3_init).cls = true ∧ xret mX3_init = none ∧ 1 ≤ xnL mX3_init ∧ (xy mX3_init).name = "<init>" ∧ Cond.initialized (xy mX3_init).cls ∈ gt ∧ Cond.code (xy mX3_init) (xcc mX3_init) (xnL mX3_init) none ∈ gt ∧ Cond.instanceMethod (xy mX3_init) ∈ gt ∧ ((xy mX3_init).cls ≠ "java/lang/invoke/MethodHandle" ∧ (xy mX3_init).cls ≠ "java/lang/invoke/VarHandle" ∧ (parseMethodDescriptor (xy mX3_init).desc).map (fun d => d.parameters.length) = some 0) := ⟨by decide, rfl, by decide, rfl, in_X3, co_X3_init, im_X3_init, by decide, by decide, by decide +kernel⟩
def mX4_init : xM := (yX4_init, cX4_init, 2, none, { frames := 2, cells := 30, slots := 765, locals := 60 })
theorem df_X4 : ∀ j, j < 7 → defaultValue (tyX4 j) = vp_V [.null, .null, .null, .null, .null, .null, .int 0] j := by
  intro j hj
  match j, hj with
  | 0, _ => rfl
  | 1, _ => rfl
  | 2, _ => rfl
  | 3, _ => rfl
  | 4, _ => rfl
  | 5, _ => rfl
  | 6, _ => rfl
  | j + 7, hj => exact absurd hj (by omega)
theorem nX4_init : plainName (xy mX4_init).cls = true ∧ xret mX4_init = none ∧ 1 ≤ xnL mX4_init ∧ (xy mX4_init).name = "<init>" ∧ Cond.initialized (xy mX4_init).cls ∈ gt ∧ Cond.code (xy mX4_init) (xcc mX4_init) (xnL mX4_init) none ∈ gt ∧ Cond.instanceMethod (xy mX4_init) ∈ gt ∧ ((xy mX4_init).cls ≠ "java/lang/invoke/MethodHandle" ∧ (xy mX4_init).cls ≠ "java/lang/invoke/VarHandle" ∧ (parseMethodDescriptor (xy mX4_init).desc).map (fun d => d.parameters.length) = some 0) := ⟨by decide, rfl, by decide, rfl, in_X4, co_X4_init, im_X4_init, by decide, by decide, by decide +kernel⟩
def mX5_init : xM := (yX5_init, cX5_init, 1, none, { frames := 1, cells := 13, slots := 922, locals := 20 })
theorem df_X5 : ∀ j, j < 21 → defaultValue (tyX5 j) = vp_V [.null, .null, .null, .int 0, .null, .null, .int 0, .int 0, .null, .int 0, .int 0, .int 0, .int 0, .long 0, .null, .null, .null, .null, .null, .null, .null] j := by
  intro j hj
  match j, hj with
  | 0, _ => rfl
  | 1, _ => rfl
  | 2, _ => rfl
  | 3, _ => rfl
  | 4, _ => rfl
  | 5, _ => rfl
  | 6, _ => rfl
  | 7, _ => rfl
  | 8, _ => rfl
  | 9, _ => rfl
  | 10, _ => rfl
  | 11, _ => rfl
  | 12, _ => rfl
  | 13, _ => rfl
  | 14, _ => rfl
  | 15, _ => rfl
  | 16, _ => rfl
  | 17, _ => rfl
  | 18, _ => rfl
  | 19, _ => rfl
  | 20, _ => rfl
  | j + 21, hj => exact absurd hj (by omega)
theorem nX5_init : plainName (xy mX5_init).cls = true ∧ xret mX5_init = none ∧ 1 ≤ xnL mX5_init ∧ (xy mX5_init).name = "<init>" ∧ Cond.initialized (xy mX5_init).cls ∈ gt ∧ Cond.code (xy mX5_init) (xcc mX5_init) (xnL mX5_init) none ∈ gt ∧ Cond.instanceMethod (xy mX5_init) ∈ gt ∧ ((xy mX5_init).cls ≠ "java/lang/invoke/MethodHandle" ∧ (xy mX5_init).cls ≠ "java/lang/invoke/VarHandle" ∧ (parseMethodDescriptor (xy mX5_init).desc).map (fun d => d.parameters.length) = some 0) := ⟨by decide, rfl, by decide, rfl, in_X5, co_X5_init, im_X5_init, by decide, by decide, by decide +kernel⟩
set_option maxHeartbeats 2000000 in
set_option maxRecDepth 100000 in
theorem zi_X1 (l : Launch) (D : va_G) (cy : Nat → ClassId) (h0 : Nat) : Zx l D (zC cy) mX1_init 0 (xent [.ref h0] 1) [] [(h0, .inr (0, [.int 0, .int 0, .null]))] 0 0 (fun ws => ∃ a0 : Nat, ws = [(h0, .inr (0, [.int 0, .int 0, .ref a0])), (a0, .inl (cy 1, 40, .inr (.inl (fun _ => 0))))]) := by
  refine z_ent (ls := [some (.ref h0)]) rfl ?_
  refine z_aload (i := 0) dX1_init_0 rfl rfl ?_
  refine z_obj dX1_init_1 ml_X1_3 (by decide) (fun _ _ => (Nat.le_of_ble_eq_true rfl)) ?_
  refine z_aload (i := 0) dX1_init_4 rfl rfl ?_
  refine z_iconst (v := 0) dX1_init_5 (by decide) ?_
  refine z_putN (q0 := 0) (i := 0) (ws2 := [(h0, .inr (0, [.int 0, .int 0, .null]))]) dX1_init_6 rfl rfl (by decide) fl_X1_9 inX1 tyX1_ok nmX1 rfl rfl rfl rfl (Nat.le_of_ble_eq_true rfl) rfl ?_
  refine z_aload (i := 0) dX1_init_9 rfl rfl ?_
  refine z_iconst (v := 0) dX1_init_10 (by decide) ?_
  refine z_putN (q0 := 0) (i := 1) (ws2 := [(h0, .inr (0, [.int 0, .int 0, .null]))]) dX1_init_11 rfl rfl (by decide) fl_X1_15 inX1 tyX1_ok nmX1 rfl rfl rfl rfl (Nat.le_of_ble_eq_true rfl) rfl ?_
  refine z_aload (i := 0) dX1_init_14 rfl rfl ?_
  refine z_bipush (v := nI 40) dX1_init_15 (by decide) ?_
  refine z_newl (N := 40) (kc2 := 1) (ks2 := 40) (cA := cy 1) dX1_init_17 rfl (by decide) (Nat.le_of_ble_eq_true rfl) rfl rfl (Nat.le_of_ble_eq_true rfl) (Nat.le_of_ble_eq_true rfl) (fun q1 => ?_)
  refine z_putF (q0 := 0) (i := 2) (ws2 := [(h0, .inr (0, [.int 0, .int 0, .ref q1])), (q1, .inl (cy 1, 40, .inr (.inl (fun _ => 0))))]) dX1_init_19 rfl rfl (by decide) fl_X1_18 inX1 tyX1_ok nmX1 rfl rfl rfl rfl rfl (Nat.le_of_ble_eq_true rfl) rfl ?_
  exact z_ret dX1_init_22 ⟨q1, rfl⟩ rfl rfl
set_option maxHeartbeats 2000000 in
set_option maxRecDepth 100000 in
theorem zi_X2 (l : Launch) (D : va_G) (cy : Nat → ClassId) (h0 : Nat) : Zx l D (zC cy) mX2_init 0 (xent [.ref h0] 1) [] [(h0, .inr (1, [.null, .int 0, .int 0, .int 0, .int 0, .int 0]))] 0 0 (fun ws => ∃ a0 : Nat, ws = [(h0, .inr (1, [.ref a0, .int 0, .int 0, .int 0, .int 0, .int 0])), (a0, .inl (cy 0, 120, .inl (fun _ => 0)))]) := by
  refine z_ent (ls := [some (.ref h0)]) rfl ?_
  refine z_aload (i := 0) dX2_init_0 rfl rfl ?_
  refine z_obj dX2_init_1 ml_X2_3 (by decide) (fun _ _ => (Nat.le_of_ble_eq_true rfl)) ?_
  refine z_aload (i := 0) dX2_init_4 rfl rfl ?_
  refine z_bipush (v := nI 120) dX2_init_5 (by decide) ?_
  refine z_newi (N := 120) (kc2 := 1) (ks2 := 120) (cA := cy 0) dX2_init_7 rfl (by decide) (Nat.le_of_ble_eq_true rfl) rfl rfl (Nat.le_of_ble_eq_true rfl) (Nat.le_of_ble_eq_true rfl) (fun q1 => ?_)
  refine z_putF (q0 := 0) (i := 0) (ws2 := [(h0, .inr (1, [.ref q1, .int 0, .int 0, .int 0, .int 0, .int 0])), (q1, .inl (cy 0, 120, .inl (fun _ => 0)))]) dX2_init_9 rfl rfl (by decide) fl_X2_9 inX2 tyX2_ok nmX2 rfl rfl rfl rfl rfl (Nat.le_of_ble_eq_true rfl) rfl ?_
  refine z_aload (i := 0) dX2_init_12 rfl rfl ?_
  refine z_iconst (v := 0) dX2_init_13 (by decide) ?_
  refine z_putN (q0 := 0) (i := 1) (ws2 := [(h0, .inr (1, [.ref q1, .int 0, .int 0, .int 0, .int 0, .int 0])), (q1, .inl (cy 0, 120, .inl (fun _ => 0)))]) dX2_init_14 rfl rfl (by decide) fl_X2_15 inX2 tyX2_ok nmX2 rfl rfl rfl rfl (Nat.le_of_ble_eq_true rfl) rfl ?_
  exact z_ret dX2_init_17 ⟨q1, rfl⟩ rfl rfl
set_option maxHeartbeats 2000000 in
set_option maxRecDepth 100000 in
theorem zi_X3 (l : Launch) (D : va_G) (cy : Nat → ClassId) (h0 : Nat) : Zx l D (zC cy) mX3_init 0 (xent [.ref h0] 1) [] [(h0, .inr (2, [.int 0, .int 0, .int 0, .null, .null, .null, .null, .null]))] 0 0 (fun ws => ∃ a0 a1 a2 a3 a4 : Nat, ws = [(h0, .inr (2, [.int 0, .int 3, .int 0, .ref a0, .ref a1, .ref a2, .ref a3, .ref a4])), (a0, .inl (cy 0, 60, .inl (fun _ => 0))), (a1, .inl (cy 0, 60, .inl (fun _ => 0))), (a2, .inl (cy 0, 8, .inl (fun _ => 0))), (a3, .inl (cy 0, 8, .inl (fun _ => 0))), (a4, .inl (cy 0, 8, .inl (fun _ => 0)))]) := by
  refine z_ent (ls := [some (.ref h0)]) rfl ?_
  refine z_aload (i := 0) dX3_init_0 rfl rfl ?_
  refine z_obj dX3_init_1 ml_X3_3 (by decide) (fun _ _ => (Nat.le_of_ble_eq_true rfl)) ?_
  refine z_aload (i := 0) dX3_init_4 rfl rfl ?_
  refine z_iconst (v := 0) dX3_init_5 (by decide) ?_
  refine z_putN (q0 := 0) (i := 0) (ws2 := [(h0, .inr (2, [.int 0, .int 0, .int 0, .null, .null, .null, .null, .null]))]) dX3_init_6 rfl rfl (by decide) fl_X3_9 inX3 tyX3_ok nmX3 rfl rfl rfl rfl (Nat.le_of_ble_eq_true rfl) rfl ?_
  refine z_aload (i := 0) dX3_init_9 rfl rfl ?_
  refine z_iconst (v := 3) dX3_init_10 (by decide) ?_
  refine z_putN (q0 := 0) (i := 1) (ws2 := [(h0, .inr (2, [.int 0, .int 3, .int 0, .null, .null, .null, .null, .null]))]) dX3_init_11 rfl rfl (by decide) fl_X3_15 inX3 tyX3_ok nmX3 rfl rfl rfl rfl (Nat.le_of_ble_eq_true rfl) rfl ?_
  refine z_aload (i := 0) dX3_init_14 rfl rfl ?_
  refine z_iconst (v := 0) dX3_init_15 (by decide) ?_
  refine z_putN (q0 := 0) (i := 2) (ws2 := [(h0, .inr (2, [.int 0, .int 3, .int 0, .null, .null, .null, .null, .null]))]) dX3_init_16 rfl rfl (by decide) fl_X3_18 inX3 tyX3_ok nmX3 rfl rfl rfl rfl (Nat.le_of_ble_eq_true rfl) rfl ?_
  refine z_aload (i := 0) dX3_init_19 rfl rfl ?_
  refine z_bipush (v := nI 60) dX3_init_20 (by decide) ?_
  refine z_newi (N := 60) (kc2 := 1) (ks2 := 60) (cA := cy 0) dX3_init_22 rfl (by decide) (Nat.le_of_ble_eq_true rfl) rfl rfl (Nat.le_of_ble_eq_true rfl) (Nat.le_of_ble_eq_true rfl) (fun q1 => ?_)
  refine z_putF (q0 := 0) (i := 3) (ws2 := [(h0, .inr (2, [.int 0, .int 3, .int 0, .ref q1, .null, .null, .null, .null])), (q1, .inl (cy 0, 60, .inl (fun _ => 0)))]) dX3_init_24 rfl rfl (by decide) fl_X3_21 inX3 tyX3_ok nmX3 rfl rfl rfl rfl rfl (Nat.le_of_ble_eq_true rfl) rfl ?_
  refine z_aload (i := 0) dX3_init_27 rfl rfl ?_
  refine z_bipush (v := nI 60) dX3_init_28 (by decide) ?_
  refine z_newi (N := 60) (kc2 := 2) (ks2 := 120) (cA := cy 0) dX3_init_30 rfl (by decide) (Nat.le_of_ble_eq_true rfl) rfl rfl (Nat.le_of_ble_eq_true rfl) (Nat.le_of_ble_eq_true rfl) (fun q2 => ?_)
  refine z_putF (q0 := 0) (i := 4) (ws2 := [(h0, .inr (2, [.int 0, .int 3, .int 0, .ref q1, .ref q2, .null, .null, .null])), (q1, .inl (cy 0, 60, .inl (fun _ => 0))), (q2, .inl (cy 0, 60, .inl (fun _ => 0)))]) dX3_init_32 rfl rfl (by decide) fl_X3_25 inX3 tyX3_ok nmX3 rfl rfl rfl rfl rfl (Nat.le_of_ble_eq_true rfl) rfl ?_
  refine z_aload (i := 0) dX3_init_35 rfl rfl ?_
  refine z_bipush (v := nI 8) dX3_init_36 (by decide) ?_
  refine z_newi (N := 8) (kc2 := 3) (ks2 := 128) (cA := cy 0) dX3_init_38 rfl (by decide) (Nat.le_of_ble_eq_true rfl) rfl rfl (Nat.le_of_ble_eq_true rfl) (Nat.le_of_ble_eq_true rfl) (fun q3 => ?_)
  refine z_putF (q0 := 0) (i := 5) (ws2 := [(h0, .inr (2, [.int 0, .int 3, .int 0, .ref q1, .ref q2, .ref q3, .null, .null])), (q1, .inl (cy 0, 60, .inl (fun _ => 0))), (q2, .inl (cy 0, 60, .inl (fun _ => 0))), (q3, .inl (cy 0, 8, .inl (fun _ => 0)))]) dX3_init_40 rfl rfl (by decide) fl_X3_28 inX3 tyX3_ok nmX3 rfl rfl rfl rfl rfl (Nat.le_of_ble_eq_true rfl) rfl ?_
  refine z_aload (i := 0) dX3_init_43 rfl rfl ?_
  refine z_bipush (v := nI 8) dX3_init_44 (by decide) ?_
  refine z_newi (N := 8) (kc2 := 4) (ks2 := 136) (cA := cy 0) dX3_init_46 rfl (by decide) (Nat.le_of_ble_eq_true rfl) rfl rfl (Nat.le_of_ble_eq_true rfl) (Nat.le_of_ble_eq_true rfl) (fun q4 => ?_)
  refine z_putF (q0 := 0) (i := 6) (ws2 := [(h0, .inr (2, [.int 0, .int 3, .int 0, .ref q1, .ref q2, .ref q3, .ref q4, .null])), (q1, .inl (cy 0, 60, .inl (fun _ => 0))), (q2, .inl (cy 0, 60, .inl (fun _ => 0))), (q3, .inl (cy 0, 8, .inl (fun _ => 0))), (q4, .inl (cy 0, 8, .inl (fun _ => 0)))]) dX3_init_48 rfl rfl (by decide) fl_X3_31 inX3 tyX3_ok nmX3 rfl rfl rfl rfl rfl (Nat.le_of_ble_eq_true rfl) rfl ?_
  refine z_aload (i := 0) dX3_init_51 rfl rfl ?_
  refine z_bipush (v := nI 8) dX3_init_52 (by decide) ?_
  refine z_newi (N := 8) (kc2 := 5) (ks2 := 144) (cA := cy 0) dX3_init_54 rfl (by decide) (Nat.le_of_ble_eq_true rfl) rfl rfl (Nat.le_of_ble_eq_true rfl) (Nat.le_of_ble_eq_true rfl) (fun q5 => ?_)
  refine z_putF (q0 := 0) (i := 7) (ws2 := [(h0, .inr (2, [.int 0, .int 3, .int 0, .ref q1, .ref q2, .ref q3, .ref q4, .ref q5])), (q1, .inl (cy 0, 60, .inl (fun _ => 0))), (q2, .inl (cy 0, 60, .inl (fun _ => 0))), (q3, .inl (cy 0, 8, .inl (fun _ => 0))), (q4, .inl (cy 0, 8, .inl (fun _ => 0))), (q5, .inl (cy 0, 8, .inl (fun _ => 0)))]) dX3_init_56 rfl rfl (by decide) fl_X3_34 inX3 tyX3_ok nmX3 rfl rfl rfl rfl rfl (Nat.le_of_ble_eq_true rfl) rfl ?_
  exact z_ret dX3_init_59 ⟨q1, q2, q3, q4, q5, rfl⟩ rfl rfl
