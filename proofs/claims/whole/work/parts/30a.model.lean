theorem zh_X8_thrown : yX8_thrown.cls = RX8 ∧ yX8_thrown.cls ≠ "java/lang/invoke/MethodHandle" ∧ yX8_thrown.cls ≠ "java/lang/invoke/VarHandle" ∧ (parseMethodDescriptor yX8_thrown.desc).map (fun d => d.parameters.length) = some 0 := by decide +kernel
set_option maxHeartbeats 8000000 in
set_option maxRecDepth 100000 in
theorem zc_X8_thrown (G : zgG) (q0 q1 q2 q3 q4 q5 q6 q7 q8 : Nat) (v0 : zModel) (fu : Nat) (res : Int32) (hf : zf_X8_thrown fu v0 = some res) : zgCt G yX8_thrown wsX8_thrown ({ frames := 0, cells := 0, slots := 0, locals := 0 } : Room) [.ref q0] [(q0, .inr (7, [.ref q1, .ref q2, .int v0.2.2.1, .ref q3, .int v0.2.2.2.2.1, .int v0.2.2.2.2.2.1, .ref q4, .int v0.2.2.2.2.2.2.2.1, .ref q5, .ref q6, .ref q7, .int v0.2.2.2.2.2.2.2.2.2.2.2.1, .int v0.2.2.2.2.2.2.2.2.2.2.2.2.1, .int v0.2.2.2.2.2.2.2.2.2.2.2.2.2.1, .int v0.2.2.2.2.2.2.2.2.2.2.2.2.2.2.1, .ref q8, .int v0.2.2.2.2.2.2.2.2.2.2.2.2.2.2.2.2])), (q1, .inl (G.2.2.1, 946, .inl v0.1)), (q2, .inl (G.2.2.1, 5676, .inl v0.2.1)), (q3, .inl (G.2.2.1, 60, .inl v0.2.2.2.1)), (q4, .inl (G.2.2.1, 201, .inl v0.2.2.2.2.2.2.1)), (q5, .inl (G.2.2.1, 201, .inl v0.2.2.2.2.2.2.2.2.1)), (q6, .inl (G.2.2.1, 201, .inl v0.2.2.2.2.2.2.2.2.2.1)), (q7, .inl (G.2.2.1, 201, .inl v0.2.2.2.2.2.2.2.2.2.2.1)), (q8, .inl (G.2.2.1, 201, .inl v0.2.2.2.2.2.2.2.2.2.2.2.2.2.2.2.1))] (fun _ : Unit => some (.int res)) (fun _ => [(q0, .inr (7, [.ref q1, .ref q2, .int v0.2.2.1, .ref q3, .int v0.2.2.2.2.1, .int v0.2.2.2.2.2.1, .ref q4, .int v0.2.2.2.2.2.2.2.1, .ref q5, .ref q6, .ref q7, .int v0.2.2.2.2.2.2.2.2.2.2.2.1, .int v0.2.2.2.2.2.2.2.2.2.2.2.2.1, .int v0.2.2.2.2.2.2.2.2.2.2.2.2.2.1, .int v0.2.2.2.2.2.2.2.2.2.2.2.2.2.2.1, .ref q8, .int v0.2.2.2.2.2.2.2.2.2.2.2.2.2.2.2.2])), (q1, .inl (G.2.2.1, 946, .inl v0.1)), (q2, .inl (G.2.2.1, 5676, .inl v0.2.1)), (q3, .inl (G.2.2.1, 60, .inl v0.2.2.2.1)), (q4, .inl (G.2.2.1, 201, .inl v0.2.2.2.2.2.2.1)), (q5, .inl (G.2.2.1, 201, .inl v0.2.2.2.2.2.2.2.2.1)), (q6, .inl (G.2.2.1, 201, .inl v0.2.2.2.2.2.2.2.2.2.1)), (q7, .inl (G.2.2.1, 201, .inl v0.2.2.2.2.2.2.2.2.2.2.1)), (q8, .inl (G.2.2.1, 201, .inl v0.2.2.2.2.2.2.2.2.2.2.2.2.2.2.2.1))]) 0 0 := by
  have hw0 : Cond.fieldLink RX8 38 "TelexReceiverModel" "thrown" "I" ∈ wsX8_thrown := by decide +kernel
  have hiX8 : ∀ w ∈ u_ws RX8 TX8 17, w ∈ wsX8_thrown := by decide +kernel
  refine zg_of (own := RX8) (cc := cX8_thrown) (nL := 1) (ret := (some .int)) (by decide +kernel) rfl rfl (Nat.le_of_ble_eq_true rfl) (fun Z X hF => ?_)
  show zgGd G Z _ 0 0 1 _ 0 [(0, .ref q0)] []
  unfold zf_X8_thrown at hf
  refine zg_aload_n X dX8_thrown_0 rfl 0 rfl ?_
  refine zg_get (C := RX8) (T := TX8) (N := 17) X 0 5 hiX8 rfl rfl (by decide) hw0 rfl dX8_thrown_1 ?_
  have hf := Option.some.inj hf
  subst hf
  exact zg_iret X hF rfl rfl () rfl rfl (Nat.le_of_ble_eq_true rfl) (Nat.le_of_ble_eq_true rfl) dX8_thrown_4
theorem zh_X8_refused : yX8_refused.cls = RX8 ∧ yX8_refused.cls ≠ "java/lang/invoke/MethodHandle" ∧ yX8_refused.cls ≠ "java/lang/invoke/VarHandle" ∧ (parseMethodDescriptor yX8_refused.desc).map (fun d => d.parameters.length) = some 1 := by decide +kernel
set_option maxHeartbeats 8000000 in
set_option maxRecDepth 100000 in
theorem zc_X8_refused (G : zgG) (q0 q1 q2 q3 q4 q5 q6 q7 q8 : Nat) (v0 : zModel) (a1 : Int32) (fu : Nat) (res : (Int32 × zModel)) (hf : zf_X8_refused fu v0 a1 = some res) : zgCt G yX8_refused wsX8_refused ({ frames := 0, cells := 0, slots := 0, locals := 0 } : Room) [.ref q0, .int a1] [(q0, .inr (7, [.ref q1, .ref q2, .int v0.2.2.1, .ref q3, .int v0.2.2.2.2.1, .int v0.2.2.2.2.2.1, .ref q4, .int v0.2.2.2.2.2.2.2.1, .ref q5, .ref q6, .ref q7, .int v0.2.2.2.2.2.2.2.2.2.2.2.1, .int v0.2.2.2.2.2.2.2.2.2.2.2.2.1, .int v0.2.2.2.2.2.2.2.2.2.2.2.2.2.1, .int v0.2.2.2.2.2.2.2.2.2.2.2.2.2.2.1, .ref q8, .int v0.2.2.2.2.2.2.2.2.2.2.2.2.2.2.2.2])), (q1, .inl (G.2.2.1, 946, .inl v0.1)), (q2, .inl (G.2.2.1, 5676, .inl v0.2.1)), (q3, .inl (G.2.2.1, 60, .inl v0.2.2.2.1)), (q4, .inl (G.2.2.1, 201, .inl v0.2.2.2.2.2.2.1)), (q5, .inl (G.2.2.1, 201, .inl v0.2.2.2.2.2.2.2.2.1)), (q6, .inl (G.2.2.1, 201, .inl v0.2.2.2.2.2.2.2.2.2.1)), (q7, .inl (G.2.2.1, 201, .inl v0.2.2.2.2.2.2.2.2.2.2.1)), (q8, .inl (G.2.2.1, 201, .inl v0.2.2.2.2.2.2.2.2.2.2.2.2.2.2.2.1))] (fun _ : Unit => some (.int res.1)) (fun _ => [(q0, .inr (7, [.ref q1, .ref q2, .int res.2.2.2.1, .ref q3, .int res.2.2.2.2.2.1, .int res.2.2.2.2.2.2.1, .ref q4, .int res.2.2.2.2.2.2.2.2.1, .ref q5, .ref q6, .ref q7, .int res.2.2.2.2.2.2.2.2.2.2.2.2.1, .int res.2.2.2.2.2.2.2.2.2.2.2.2.2.1, .int res.2.2.2.2.2.2.2.2.2.2.2.2.2.2.1, .int res.2.2.2.2.2.2.2.2.2.2.2.2.2.2.2.1, .ref q8, .int res.2.2.2.2.2.2.2.2.2.2.2.2.2.2.2.2.2])), (q1, .inl (G.2.2.1, 946, .inl res.2.1)), (q2, .inl (G.2.2.1, 5676, .inl res.2.2.1)), (q3, .inl (G.2.2.1, 60, .inl res.2.2.2.2.1)), (q4, .inl (G.2.2.1, 201, .inl res.2.2.2.2.2.2.2.1)), (q5, .inl (G.2.2.1, 201, .inl res.2.2.2.2.2.2.2.2.2.1)), (q6, .inl (G.2.2.1, 201, .inl res.2.2.2.2.2.2.2.2.2.2.1)), (q7, .inl (G.2.2.1, 201, .inl res.2.2.2.2.2.2.2.2.2.2.2.1)), (q8, .inl (G.2.2.1, 201, .inl res.2.2.2.2.2.2.2.2.2.2.2.2.2.2.2.2.1))]) 0 0 := by
  have hw0 : Cond.fieldLink RX8 38 "TelexReceiverModel" "thrown" "I" ∈ wsX8_refused := by decide +kernel
  have hiX8 : ∀ w ∈ u_ws RX8 TX8 17, w ∈ wsX8_refused := by decide +kernel
  refine zg_of (own := RX8) (cc := cX8_refused) (nL := 2) (ret := (some .boolean)) (by decide +kernel) rfl rfl (Nat.le_of_ble_eq_true rfl) (fun Z X hF => ?_)
  show zgGd G Z _ 0 0 2 _ 0 [(0, .ref q0), (1, .int a1)] []
  unfold zf_X8_refused at hf
  refine zg_aload_n X dX8_refused_0 rfl 0 rfl ?_
  refine zg_iload_n X dX8_refused_1 rfl 1 rfl ?_
  refine zg_put (C := RX8) (T := TX8) (N := 17) (ty := .int) (ws' := [(q0, .inr (7, [.ref q1, .ref q2, .int v0.2.2.1, .ref q3, .int v0.2.2.2.2.1, .int a1, .ref q4, .int v0.2.2.2.2.2.2.2.1, .ref q5, .ref q6, .ref q7, .int v0.2.2.2.2.2.2.2.2.2.2.2.1, .int v0.2.2.2.2.2.2.2.2.2.2.2.2.1, .int v0.2.2.2.2.2.2.2.2.2.2.2.2.2.1, .int v0.2.2.2.2.2.2.2.2.2.2.2.2.2.2.1, .ref q8, .int v0.2.2.2.2.2.2.2.2.2.2.2.2.2.2.2.2])), (q1, .inl (G.2.2.1, 946, .inl v0.1)), (q2, .inl (G.2.2.1, 5676, .inl v0.2.1)), (q3, .inl (G.2.2.1, 60, .inl v0.2.2.2.1)), (q4, .inl (G.2.2.1, 201, .inl v0.2.2.2.2.2.2.1)), (q5, .inl (G.2.2.1, 201, .inl v0.2.2.2.2.2.2.2.2.1)), (q6, .inl (G.2.2.1, 201, .inl v0.2.2.2.2.2.2.2.2.2.1)), (q7, .inl (G.2.2.1, 201, .inl v0.2.2.2.2.2.2.2.2.2.2.1)), (q8, .inl (G.2.2.1, 201, .inl v0.2.2.2.2.2.2.2.2.2.2.2.2.2.2.2.1))]) X 0 5 hiX8 tyX8 tyX8_ok nmX8 rfl rfl (by decide) hw0 rfl (by decide +kernel) rfl rfl (Nat.le_of_ble_eq_true rfl) rfl dX8_refused_2 ?_
  refine zg_iload_n X dX8_refused_5 rfl 1 rfl ?_
  refine zg_if_le (tgt := 13) X dX8_refused_6 (by decide) (fun c1 => ?_) (fun c1 => ?_)
  · have hf := pl_t c1 hf
    refine zg_iconst (v := 0) X dX8_refused_13 (by decide) ?_
    have hf := Option.some.inj hf
    subst hf
    exact zg_iret X hF rfl rfl () rfl rfl (Nat.le_of_ble_eq_true rfl) (Nat.le_of_ble_eq_true rfl) dX8_refused_14
  · have hf := pl_f c1 hf
    refine zg_iconst (v := 1) X dX8_refused_9 (by decide) ?_
    refine zg_goto (tgt := 14) X dX8_refused_10 (by decide) ?_
    have hf := Option.some.inj hf
    subst hf
    exact zg_iret X hF rfl rfl () rfl rfl (Nat.le_of_ble_eq_true rfl) (Nat.le_of_ble_eq_true rfl) dX8_refused_14
theorem zh_X8_in : yX8_in.cls = RX8 ∧ yX8_in.cls ≠ "java/lang/invoke/MethodHandle" ∧ yX8_in.cls ≠ "java/lang/invoke/VarHandle" ∧ (parseMethodDescriptor yX8_in.desc).map (fun d => d.parameters.length) = some 3 := by decide +kernel
set_option maxHeartbeats 8000000 in
set_option maxRecDepth 100000 in
theorem zc_X8_in (G : zgG) (a0 : Int32) (a1 : Int32) (a2 : Int32) (fu : Nat) (res : Int32) (hf : zf_X8_in fu a0 a1 a2 = some res) : zgCt G yX8_in wsX8_in ({ frames := 0, cells := 0, slots := 0, locals := 0 } : Room) [.int a0, .int a1, .int a2] [] (fun _ : Unit => some (.int res)) (fun _ => []) 0 0 := by
  refine zg_of (own := RX8) (cc := cX8_in) (nL := 3) (ret := (some .boolean)) (by decide +kernel) rfl rfl (Nat.le_of_ble_eq_true rfl) (fun Z X hF => ?_)
  show zgGd G Z _ 0 0 3 _ 0 [(0, .int a0), (1, .int a1), (2, .int a2)] []
  unfold zf_X8_in at hf
  refine zg_iload_n X dX8_in_0 rfl 0 rfl ?_
  refine zg_iload_n X dX8_in_1 rfl 1 rfl ?_
  refine zg_icmp_lt (tgt := 14) X dX8_in_2 (by decide) (fun c1 => ?_) (fun c1 => ?_)
  · have hf := pl_t c1 hf
    refine zg_iconst (v := 0) X dX8_in_14 (by decide) ?_
    have hf := Option.some.inj hf
    subst hf
    exact zg_iret X hF rfl rfl () rfl rfl (Nat.le_of_ble_eq_true rfl) (Nat.le_of_ble_eq_true rfl) dX8_in_15
  · have hf := pl_f c1 hf
    refine zg_iload_n X dX8_in_5 rfl 0 rfl ?_
    refine zg_iload_n X dX8_in_6 rfl 2 rfl ?_
    refine zg_icmp_gt (tgt := 14) X dX8_in_7 (by decide) (fun c2 => ?_) (fun c2 => ?_)
    · have hf := pl_t c2 hf
      refine zg_iconst (v := 0) X dX8_in_14 (by decide) ?_
      have hf := Option.some.inj hf
      subst hf
      exact zg_iret X hF rfl rfl () rfl rfl (Nat.le_of_ble_eq_true rfl) (Nat.le_of_ble_eq_true rfl) dX8_in_15
    · have hf := pl_f c2 hf
      refine zg_iconst (v := 1) X dX8_in_10 (by decide) ?_
      refine zg_goto (tgt := 15) X dX8_in_11 (by decide) ?_
      have hf := Option.some.inj hf
      subst hf
      exact zg_iret X hF rfl rfl () rfl rfl (Nat.le_of_ble_eq_true rfl) (Nat.le_of_ble_eq_true rfl) dX8_in_15
theorem zh_X8_saves : yX8_saves.cls = RX8 ∧ yX8_saves.cls ≠ "java/lang/invoke/MethodHandle" ∧ yX8_saves.cls ≠ "java/lang/invoke/VarHandle" ∧ (parseMethodDescriptor yX8_saves.desc).map (fun d => d.parameters.length) = some 0 := by decide +kernel
set_option maxHeartbeats 8000000 in
set_option maxRecDepth 100000 in
theorem zc_X8_saves (G : zgG) (q0 q1 q2 q3 q4 q5 q6 q7 q8 : Nat) (v0 : zModel) (fu : Nat) (res : zModel) (hf : zf_X8_saves fu v0 = some res) : zgCt G yX8_saves wsX8_saves ({ frames := 0, cells := 0, slots := 0, locals := 0 } : Room) [.ref q0] [(q0, .inr (7, [.ref q1, .ref q2, .int v0.2.2.1, .ref q3, .int v0.2.2.2.2.1, .int v0.2.2.2.2.2.1, .ref q4, .int v0.2.2.2.2.2.2.2.1, .ref q5, .ref q6, .ref q7, .int v0.2.2.2.2.2.2.2.2.2.2.2.1, .int v0.2.2.2.2.2.2.2.2.2.2.2.2.1, .int v0.2.2.2.2.2.2.2.2.2.2.2.2.2.1, .int v0.2.2.2.2.2.2.2.2.2.2.2.2.2.2.1, .ref q8, .int v0.2.2.2.2.2.2.2.2.2.2.2.2.2.2.2.2])), (q1, .inl (G.2.2.1, 946, .inl v0.1)), (q2, .inl (G.2.2.1, 5676, .inl v0.2.1)), (q3, .inl (G.2.2.1, 60, .inl v0.2.2.2.1)), (q4, .inl (G.2.2.1, 201, .inl v0.2.2.2.2.2.2.1)), (q5, .inl (G.2.2.1, 201, .inl v0.2.2.2.2.2.2.2.2.1)), (q6, .inl (G.2.2.1, 201, .inl v0.2.2.2.2.2.2.2.2.2.1)), (q7, .inl (G.2.2.1, 201, .inl v0.2.2.2.2.2.2.2.2.2.2.1)), (q8, .inl (G.2.2.1, 201, .inl v0.2.2.2.2.2.2.2.2.2.2.2.2.2.2.2.1))] (fun _ : Unit => none) (fun _ => [(q0, .inr (7, [.ref q1, .ref q2, .int res.2.2.1, .ref q3, .int res.2.2.2.2.1, .int res.2.2.2.2.2.1, .ref q4, .int res.2.2.2.2.2.2.2.1, .ref q5, .ref q6, .ref q7, .int res.2.2.2.2.2.2.2.2.2.2.2.1, .int res.2.2.2.2.2.2.2.2.2.2.2.2.1, .int res.2.2.2.2.2.2.2.2.2.2.2.2.2.1, .int res.2.2.2.2.2.2.2.2.2.2.2.2.2.2.1, .ref q8, .int res.2.2.2.2.2.2.2.2.2.2.2.2.2.2.2.2])), (q1, .inl (G.2.2.1, 946, .inl res.1)), (q2, .inl (G.2.2.1, 5676, .inl res.2.1)), (q3, .inl (G.2.2.1, 60, .inl res.2.2.2.1)), (q4, .inl (G.2.2.1, 201, .inl res.2.2.2.2.2.2.1)), (q5, .inl (G.2.2.1, 201, .inl res.2.2.2.2.2.2.2.2.1)), (q6, .inl (G.2.2.1, 201, .inl res.2.2.2.2.2.2.2.2.2.1)), (q7, .inl (G.2.2.1, 201, .inl res.2.2.2.2.2.2.2.2.2.2.1)), (q8, .inl (G.2.2.1, 201, .inl res.2.2.2.2.2.2.2.2.2.2.2.2.2.2.2.1))]) 0 0 := by
  have hw0 : Cond.fieldLink RX8 41 "TelexReceiverModel" "saved" "I" ∈ wsX8_saves := by decide +kernel
  have hw1 : Cond.fieldLink RX8 13 "TelexReceiverModel" "before" "[I" ∈ wsX8_saves := by decide +kernel
  have hw2 : Cond.fieldLink RX8 7 "TelexReceiverModel" "s" "[I" ∈ wsX8_saves := by decide +kernel
  have hiX8 : ∀ w ∈ u_ws RX8 TX8 17, w ∈ wsX8_saves := by decide +kernel
  refine zg_of (own := RX8) (cc := cX8_saves) (nL := 2) (ret := none) (by decide +kernel) rfl rfl (Nat.le_of_ble_eq_true rfl) (fun Z X hF => ?_)
  show zgGd G Z _ 0 0 2 _ 0 [(0, .ref q0)] []
  have hL52 : ∀ (n : Nat) (y1 : Int32) (w0 : (Nat → Int32)) (w1 : Int32), zf_X8_saves_L52 fu v0 n y1 w0 w1 = some res → zgGd G Z ({ frames := 0, cells := 0, slots := 0, locals := 0 } : Room) 0 0 2 [(q0, .inr (7, [.ref q1, .ref q2, .int w1, .ref q3, .int v0.2.2.2.2.1, .int v0.2.2.2.2.2.1, .ref q4, .int v0.2.2.2.2.2.2.2.1, .ref q5, .ref q6, .ref q7, .int v0.2.2.2.2.2.2.2.2.2.2.2.1, .int v0.2.2.2.2.2.2.2.2.2.2.2.2.1, .int v0.2.2.2.2.2.2.2.2.2.2.2.2.2.1, .int v0.2.2.2.2.2.2.2.2.2.2.2.2.2.2.1, .ref q8, .int v0.2.2.2.2.2.2.2.2.2.2.2.2.2.2.2.2])), (q1, .inl (G.2.2.1, 946, .inl v0.1)), (q2, .inl (G.2.2.1, 5676, .inl w0)), (q3, .inl (G.2.2.1, 60, .inl v0.2.2.2.1)), (q4, .inl (G.2.2.1, 201, .inl v0.2.2.2.2.2.2.1)), (q5, .inl (G.2.2.1, 201, .inl v0.2.2.2.2.2.2.2.2.1)), (q6, .inl (G.2.2.1, 201, .inl v0.2.2.2.2.2.2.2.2.2.1)), (q7, .inl (G.2.2.1, 201, .inl v0.2.2.2.2.2.2.2.2.2.2.1)), (q8, .inl (G.2.2.1, 201, .inl v0.2.2.2.2.2.2.2.2.2.2.2.2.2.2.2.1))] 52 [(0, .ref q0), (1, .int y1)] [] := by
    intro n
    induction n with
    | zero =>
      intro y1 w0 w1 hf
      rw [zf_X8_saves_L52] at hf
      cases hf
    | succ n52 ih52 =>
      intro y1 w0 w1 hf
      rw [zf_X8_saves_L52] at hf
      refine zg_iload_n X dX8_saves_52 rfl 1 rfl ?_
      refine zg_sipush (v := 946) X dX8_saves_53 (by decide) ?_
      refine zg_icmp_ge (tgt := 86) X dX8_saves_56 (by decide) (fun c8 => ?_) (fun c8 => ?_)
      · have hf := pl_t c8 hf
        refine zg_aload_n X dX8_saves_86 rfl 0 rfl ?_
        refine zg_dup X dX8_saves_87 rfl ?_
        refine zg_get (C := RX8) (T := TX8) (N := 17) X 0 2 hiX8 rfl rfl (by decide) hw0 rfl dX8_saves_88 ?_
        refine zg_iconst (v := 1) X dX8_saves_91 (by decide) ?_
        refine zg_iadd X dX8_saves_92 ?_
        obtain ⟨x9, ex9, hf⟩ := pl_l hf
        refine zg_topi ex9 ?_
        refine zg_put (C := RX8) (T := TX8) (N := 17) (ty := .int) (ws' := [(q0, .inr (7, [.ref q1, .ref q2, .int x9, .ref q3, .int v0.2.2.2.2.1, .int v0.2.2.2.2.2.1, .ref q4, .int v0.2.2.2.2.2.2.2.1, .ref q5, .ref q6, .ref q7, .int v0.2.2.2.2.2.2.2.2.2.2.2.1, .int v0.2.2.2.2.2.2.2.2.2.2.2.2.1, .int v0.2.2.2.2.2.2.2.2.2.2.2.2.2.1, .int v0.2.2.2.2.2.2.2.2.2.2.2.2.2.2.1, .ref q8, .int v0.2.2.2.2.2.2.2.2.2.2.2.2.2.2.2.2])), (q1, .inl (G.2.2.1, 946, .inl v0.1)), (q2, .inl (G.2.2.1, 5676, .inl w0)), (q3, .inl (G.2.2.1, 60, .inl v0.2.2.2.1)), (q4, .inl (G.2.2.1, 201, .inl v0.2.2.2.2.2.2.1)), (q5, .inl (G.2.2.1, 201, .inl v0.2.2.2.2.2.2.2.2.1)), (q6, .inl (G.2.2.1, 201, .inl v0.2.2.2.2.2.2.2.2.2.1)), (q7, .inl (G.2.2.1, 201, .inl v0.2.2.2.2.2.2.2.2.2.2.1)), (q8, .inl (G.2.2.1, 201, .inl v0.2.2.2.2.2.2.2.2.2.2.2.2.2.2.2.1))]) X 0 2 hiX8 tyX8 tyX8_ok nmX8 rfl rfl (by decide) hw0 rfl (by decide +kernel) rfl rfl (Nat.le_of_ble_eq_true rfl) rfl dX8_saves_93 ?_
        have hf := Option.some.inj hf
        subst hf
        exact zg_vret X hF () rfl rfl (Nat.le_of_ble_eq_true rfl) (Nat.le_of_ble_eq_true rfl) dX8_saves_96
      · have hf := pl_f c8 hf
        refine zg_aload_n X dX8_saves_59 rfl 0 rfl ?_
        refine zg_get (C := RX8) (T := TX8) (N := 17) X 0 1 hiX8 rfl rfl (by decide) hw1 rfl dX8_saves_60 ?_
        refine zg_sipush (v := 946) X dX8_saves_63 (by decide) ?_
        refine zg_aload_n X dX8_saves_66 rfl 0 rfl ?_
        refine zg_get (C := RX8) (T := TX8) (N := 17) X 0 2 hiX8 rfl rfl (by decide) hw0 rfl dX8_saves_67 ?_
        refine zg_imul X dX8_saves_70 ?_
        refine zg_iload_n X dX8_saves_71 rfl 1 rfl ?_
        refine zg_iadd X dX8_saves_72 ?_
        refine zg_aload_n X dX8_saves_73 rfl 0 rfl ?_
        refine zg_get (C := RX8) (T := TX8) (N := 17) X 0 0 hiX8 rfl rfl (by decide) hw2 rfl dX8_saves_74 ?_
        refine zg_iload_n X dX8_saves_77 rfl 1 rfl ?_
        obtain ⟨hin, hf⟩ := pl_in hf
        refine zg_iald X 1 rfl hin dX8_saves_78 ?_
        obtain ⟨x10, ex10, hf⟩ := pl_l hf
        refine zg_topi ex10 ?_
        obtain ⟨hin, hf⟩ := pl_in hf
        obtain ⟨f11, ef11, hf⟩ := pl_l hf
        refine zg_iast (ws' := [(q0, .inr (7, [.ref q1, .ref q2, .int w1, .ref q3, .int v0.2.2.2.2.1, .int v0.2.2.2.2.2.1, .ref q4, .int v0.2.2.2.2.2.2.2.1, .ref q5, .ref q6, .ref q7, .int v0.2.2.2.2.2.2.2.2.2.2.2.1, .int v0.2.2.2.2.2.2.2.2.2.2.2.2.1, .int v0.2.2.2.2.2.2.2.2.2.2.2.2.2.1, .int v0.2.2.2.2.2.2.2.2.2.2.2.2.2.2.1, .ref q8, .int v0.2.2.2.2.2.2.2.2.2.2.2.2.2.2.2.2])), (q1, .inl (G.2.2.1, 946, .inl v0.1)), (q2, .inl (G.2.2.1, 5676, .inl f11)), (q3, .inl (G.2.2.1, 60, .inl v0.2.2.2.1)), (q4, .inl (G.2.2.1, 201, .inl v0.2.2.2.2.2.2.1)), (q5, .inl (G.2.2.1, 201, .inl v0.2.2.2.2.2.2.2.2.1)), (q6, .inl (G.2.2.1, 201, .inl v0.2.2.2.2.2.2.2.2.2.1)), (q7, .inl (G.2.2.1, 201, .inl v0.2.2.2.2.2.2.2.2.2.2.1)), (q8, .inl (G.2.2.1, 201, .inl v0.2.2.2.2.2.2.2.2.2.2.2.2.2.2.2.1))]) X 2 rfl hin (by subst ef11; rfl) dX8_saves_79 ?_
        obtain ⟨x12, ex12, hf⟩ := pl_l hf
        refine zg_iinc (v := x12) (L' := [(1, .int x12), (0, .ref q0)]) X dX8_saves_80 (j := 1) rfl (by rw [ex12]; rfl) (by decide) rfl ?_
        refine zg_goto (tgt := 52) X dX8_saves_83 (by decide) ?_
        refine zg_loc [1, 0] rfl ?_
        exact ih52 x12 f11 w1 hf
  have hb50 : ∀ (w0 : (Nat → Int32)) (w1 : Int32), zf_X8_saves_b50 fu v0 w0 w1 = some res → zgGd G Z ({ frames := 0, cells := 0, slots := 0, locals := 0 } : Room) 0 0 2 [(q0, .inr (7, [.ref q1, .ref q2, .int w1, .ref q3, .int v0.2.2.2.2.1, .int v0.2.2.2.2.2.1, .ref q4, .int v0.2.2.2.2.2.2.2.1, .ref q5, .ref q6, .ref q7, .int v0.2.2.2.2.2.2.2.2.2.2.2.1, .int v0.2.2.2.2.2.2.2.2.2.2.2.2.1, .int v0.2.2.2.2.2.2.2.2.2.2.2.2.2.1, .int v0.2.2.2.2.2.2.2.2.2.2.2.2.2.2.1, .ref q8, .int v0.2.2.2.2.2.2.2.2.2.2.2.2.2.2.2.2])), (q1, .inl (G.2.2.1, 946, .inl v0.1)), (q2, .inl (G.2.2.1, 5676, .inl w0)), (q3, .inl (G.2.2.1, 60, .inl v0.2.2.2.1)), (q4, .inl (G.2.2.1, 201, .inl v0.2.2.2.2.2.2.1)), (q5, .inl (G.2.2.1, 201, .inl v0.2.2.2.2.2.2.2.2.1)), (q6, .inl (G.2.2.1, 201, .inl v0.2.2.2.2.2.2.2.2.2.1)), (q7, .inl (G.2.2.1, 201, .inl v0.2.2.2.2.2.2.2.2.2.2.1)), (q8, .inl (G.2.2.1, 201, .inl v0.2.2.2.2.2.2.2.2.2.2.2.2.2.2.2.1))] 50 [(0, .ref q0)] [] := by
    intro w0 w1 hf
    unfold zf_X8_saves_b50 at hf
    refine zg_iconst (v := 0) X dX8_saves_50 (by decide) ?_
    refine zg_istore_n (L' := [(1, .int 0), (0, .ref q0)]) X dX8_saves_51 rfl (by decide) rfl ?_
    refine zg_loc [1, 0] rfl ?_
    exact hL52 fu 0 w0 w1 hf
  have hL11 : ∀ (n : Nat) (y1 : Int32) (w0 : (Nat → Int32)) (w1 : Int32), zf_X8_saves_L11 fu v0 n y1 w0 w1 = some res → zgGd G Z ({ frames := 0, cells := 0, slots := 0, locals := 0 } : Room) 0 0 2 [(q0, .inr (7, [.ref q1, .ref q2, .int w1, .ref q3, .int v0.2.2.2.2.1, .int v0.2.2.2.2.2.1, .ref q4, .int v0.2.2.2.2.2.2.2.1, .ref q5, .ref q6, .ref q7, .int v0.2.2.2.2.2.2.2.2.2.2.2.1, .int v0.2.2.2.2.2.2.2.2.2.2.2.2.1, .int v0.2.2.2.2.2.2.2.2.2.2.2.2.2.1, .int v0.2.2.2.2.2.2.2.2.2.2.2.2.2.2.1, .ref q8, .int v0.2.2.2.2.2.2.2.2.2.2.2.2.2.2.2.2])), (q1, .inl (G.2.2.1, 946, .inl v0.1)), (q2, .inl (G.2.2.1, 5676, .inl w0)), (q3, .inl (G.2.2.1, 60, .inl v0.2.2.2.1)), (q4, .inl (G.2.2.1, 201, .inl v0.2.2.2.2.2.2.1)), (q5, .inl (G.2.2.1, 201, .inl v0.2.2.2.2.2.2.2.2.1)), (q6, .inl (G.2.2.1, 201, .inl v0.2.2.2.2.2.2.2.2.2.1)), (q7, .inl (G.2.2.1, 201, .inl v0.2.2.2.2.2.2.2.2.2.2.1)), (q8, .inl (G.2.2.1, 201, .inl v0.2.2.2.2.2.2.2.2.2.2.2.2.2.2.2.1))] 11 [(0, .ref q0), (1, .int y1)] [] := by
    intro n
    induction n with
    | zero =>
      intro y1 w0 w1 hf
      rw [zf_X8_saves_L11] at hf
      cases hf
    | succ n11 ih11 =>
      intro y1 w0 w1 hf
      rw [zf_X8_saves_L11] at hf
      refine zg_iload_n X dX8_saves_11 rfl 1 rfl ?_
      refine zg_sipush (v := 4730) X dX8_saves_12 (by decide) ?_
      refine zg_icmp_ge (tgt := 40) X dX8_saves_15 (by decide) (fun c2 => ?_) (fun c2 => ?_)
      · have hf := pl_t c2 hf
        refine zg_aload_n X dX8_saves_40 rfl 0 rfl ?_
        refine zg_dup X dX8_saves_41 rfl ?_
        refine zg_get (C := RX8) (T := TX8) (N := 17) X 0 2 hiX8 rfl rfl (by decide) hw0 rfl dX8_saves_42 ?_
        refine zg_iconst (v := 1) X dX8_saves_45 (by decide) ?_
        refine zg_isub X dX8_saves_46 ?_
        obtain ⟨x3, ex3, hf⟩ := pl_l hf
        refine zg_topi ex3 ?_
        refine zg_put (C := RX8) (T := TX8) (N := 17) (ty := .int) (ws' := [(q0, .inr (7, [.ref q1, .ref q2, .int x3, .ref q3, .int v0.2.2.2.2.1, .int v0.2.2.2.2.2.1, .ref q4, .int v0.2.2.2.2.2.2.2.1, .ref q5, .ref q6, .ref q7, .int v0.2.2.2.2.2.2.2.2.2.2.2.1, .int v0.2.2.2.2.2.2.2.2.2.2.2.2.1, .int v0.2.2.2.2.2.2.2.2.2.2.2.2.2.1, .int v0.2.2.2.2.2.2.2.2.2.2.2.2.2.2.1, .ref q8, .int v0.2.2.2.2.2.2.2.2.2.2.2.2.2.2.2.2])), (q1, .inl (G.2.2.1, 946, .inl v0.1)), (q2, .inl (G.2.2.1, 5676, .inl w0)), (q3, .inl (G.2.2.1, 60, .inl v0.2.2.2.1)), (q4, .inl (G.2.2.1, 201, .inl v0.2.2.2.2.2.2.1)), (q5, .inl (G.2.2.1, 201, .inl v0.2.2.2.2.2.2.2.2.1)), (q6, .inl (G.2.2.1, 201, .inl v0.2.2.2.2.2.2.2.2.2.1)), (q7, .inl (G.2.2.1, 201, .inl v0.2.2.2.2.2.2.2.2.2.2.1)), (q8, .inl (G.2.2.1, 201, .inl v0.2.2.2.2.2.2.2.2.2.2.2.2.2.2.2.1))]) X 0 2 hiX8 tyX8 tyX8_ok nmX8 rfl rfl (by decide) hw0 rfl (by decide +kernel) rfl rfl (Nat.le_of_ble_eq_true rfl) rfl dX8_saves_47 ?_
        refine zg_loc [0] rfl ?_
        exact hb50 w0 x3 hf
      · have hf := pl_f c2 hf
        refine zg_aload_n X dX8_saves_18 rfl 0 rfl ?_
        refine zg_get (C := RX8) (T := TX8) (N := 17) X 0 1 hiX8 rfl rfl (by decide) hw1 rfl dX8_saves_19 ?_
        refine zg_iload_n X dX8_saves_22 rfl 1 rfl ?_
        refine zg_aload_n X dX8_saves_23 rfl 0 rfl ?_
        refine zg_get (C := RX8) (T := TX8) (N := 17) X 0 1 hiX8 rfl rfl (by decide) hw1 rfl dX8_saves_24 ?_
        refine zg_sipush (v := 946) X dX8_saves_27 (by decide) ?_
        refine zg_iload_n X dX8_saves_30 rfl 1 rfl ?_
        refine zg_iadd X dX8_saves_31 ?_
        obtain ⟨x4, ex4, hf⟩ := pl_l hf
        refine zg_topi ex4 ?_
        obtain ⟨hin, hf⟩ := pl_in hf
        refine zg_iald X 2 rfl hin dX8_saves_32 ?_
        obtain ⟨x5, ex5, hf⟩ := pl_l hf
        refine zg_topi ex5 ?_
        obtain ⟨hin, hf⟩ := pl_in hf
        obtain ⟨f6, ef6, hf⟩ := pl_l hf
        refine zg_iast (ws' := [(q0, .inr (7, [.ref q1, .ref q2, .int w1, .ref q3, .int v0.2.2.2.2.1, .int v0.2.2.2.2.2.1, .ref q4, .int v0.2.2.2.2.2.2.2.1, .ref q5, .ref q6, .ref q7, .int v0.2.2.2.2.2.2.2.2.2.2.2.1, .int v0.2.2.2.2.2.2.2.2.2.2.2.2.1, .int v0.2.2.2.2.2.2.2.2.2.2.2.2.2.1, .int v0.2.2.2.2.2.2.2.2.2.2.2.2.2.2.1, .ref q8, .int v0.2.2.2.2.2.2.2.2.2.2.2.2.2.2.2.2])), (q1, .inl (G.2.2.1, 946, .inl v0.1)), (q2, .inl (G.2.2.1, 5676, .inl f6)), (q3, .inl (G.2.2.1, 60, .inl v0.2.2.2.1)), (q4, .inl (G.2.2.1, 201, .inl v0.2.2.2.2.2.2.1)), (q5, .inl (G.2.2.1, 201, .inl v0.2.2.2.2.2.2.2.2.1)), (q6, .inl (G.2.2.1, 201, .inl v0.2.2.2.2.2.2.2.2.2.1)), (q7, .inl (G.2.2.1, 201, .inl v0.2.2.2.2.2.2.2.2.2.2.1)), (q8, .inl (G.2.2.1, 201, .inl v0.2.2.2.2.2.2.2.2.2.2.2.2.2.2.2.1))]) X 2 rfl hin (by subst ef6; rfl) dX8_saves_33 ?_
        obtain ⟨x7, ex7, hf⟩ := pl_l hf
        refine zg_iinc (v := x7) (L' := [(1, .int x7), (0, .ref q0)]) X dX8_saves_34 (j := 1) rfl (by rw [ex7]; rfl) (by decide) rfl ?_
        refine zg_goto (tgt := 11) X dX8_saves_37 (by decide) ?_
        refine zg_loc [1, 0] rfl ?_
        exact ih11 x7 f6 w1 hf
  unfold zf_X8_saves at hf
  refine zg_aload_n X dX8_saves_0 rfl 0 rfl ?_
  refine zg_get (C := RX8) (T := TX8) (N := 17) X 0 2 hiX8 rfl rfl (by decide) hw0 rfl dX8_saves_1 ?_
  refine zg_bipush (v := 6) X dX8_saves_4 (by decide) ?_
  refine zg_icmp_ne (tgt := 50) X dX8_saves_6 (by decide) (fun c1 => ?_) (fun c1 => ?_)
  · have hf := pl_f c1 hf
    exact hb50 v0.2.1 v0.2.2.1 hf
  · have hf := pl_t c1 hf
    refine zg_iconst (v := 0) X dX8_saves_9 (by decide) ?_
    refine zg_istore_n (L' := [(1, .int 0), (0, .ref q0)]) X dX8_saves_10 rfl (by decide) rfl ?_
    refine zg_loc [1, 0] rfl ?_
    exact hL11 fu 0 v0.2.1 v0.2.2.1 hf
theorem zh_X8_isLetter : yX8_isLetter.cls = RX8 ∧ yX8_isLetter.cls ≠ "java/lang/invoke/MethodHandle" ∧ yX8_isLetter.cls ≠ "java/lang/invoke/VarHandle" ∧ (parseMethodDescriptor yX8_isLetter.desc).map (fun d => d.parameters.length) = some 1 := by decide +kernel
set_option maxHeartbeats 8000000 in
set_option maxRecDepth 100000 in
theorem zc_X8_isLetter (G : zgG) (a0 : Int32) (fu : Nat) (res : Int32) (hf : zf_X8_isLetter fu a0 = some res) : zgCt G yX8_isLetter wsX8_isLetter ({ frames := 1, cells := 0, slots := 0, locals := 22 } : Room) [.int a0] [] (fun _ : Unit => some (.int res)) (fun _ => []) 0 0 := by
  refine zg_of (own := RX8) (cc := cX8_isLetter) (nL := 1) (ret := (some .boolean)) (by decide +kernel) rfl rfl (Nat.le_of_ble_eq_true rfl) (fun Z X hF => ?_)
  show zgGd G Z _ 0 0 1 _ 0 [(0, .int a0)] []
  unfold zf_X8_isLetter at hf
  refine zg_iload_n X dX8_isLetter_0 rfl 0 rfl ?_
  refine zg_bipush (v := 97) X dX8_isLetter_1 (by decide) ?_
  refine zg_bipush (v := 122) X dX8_isLetter_3 (by decide) ?_
  obtain ⟨b1, hb1, hf⟩ := pl_b hf
  refine zg_cP1 X (zg_runS X (zc_X8_in G a0 97 122 fu b1 hb1) gX8_isLetter_X8_in rfl zh_X8_in.2 ⟨rfl, rfl⟩ ⟨Nat.le_of_ble_eq_true rfl, Nat.le_of_ble_eq_true rfl⟩ rfl (Nat.le_of_ble_eq_true rfl) ⟨Nat.le_of_ble_eq_true rfl, Nat.le_of_ble_eq_true rfl⟩ [] (by decide) rfl rfl dX8_isLetter_5) rfl ?_
  obtain ⟨hb2, hf⟩ := pl_o hf
  have hf := Option.some.inj hf
  subst hf
  exact zg_iret X hF rfl (pl_nz hb2) () rfl rfl (Nat.le_of_ble_eq_true rfl) (Nat.le_of_ble_eq_true rfl) dX8_isLetter_8
theorem zh_X8_signOf : yX8_signOf.cls = RX8 ∧ yX8_signOf.cls ≠ "java/lang/invoke/MethodHandle" ∧ yX8_signOf.cls ≠ "java/lang/invoke/VarHandle" ∧ (parseMethodDescriptor yX8_signOf.desc).map (fun d => d.parameters.length) = some 1 := by decide +kernel
set_option maxHeartbeats 8000000 in
set_option maxRecDepth 100000 in
theorem zc_X8_signOf (G : zgG) (a0 : Int32) (fu : Nat) (res : Int32) (hf : zf_X8_signOf fu a0 = some res) : zgCt G yX8_signOf wsX8_signOf ({ frames := 0, cells := 0, slots := 0, locals := 0 } : Room) [.int a0] [] (fun _ : Unit => some (.int res)) (fun _ => []) 0 0 := by
  refine zg_of (own := RX8) (cc := cX8_signOf) (nL := 1) (ret := (some .int)) (by decide +kernel) rfl rfl (Nat.le_of_ble_eq_true rfl) (fun Z X hF => ?_)
  show zgGd G Z _ 0 0 1 _ 0 [(0, .int a0)] []
  unfold zf_X8_signOf at hf
  refine zg_iload_n X dX8_signOf_0 rfl 0 rfl ?_
  by_cases c1 : a0 = 11
  · have hf := pl_t c1 hf
    refine zg_tblI (off := 75) (tgt := 76) X dX8_signOf_1 (by rw [c1]; decide) (by rw [c1]; decide) (by rw [c1]; rfl) (by decide) ?_
    refine zg_bipush (v := 46) X dX8_signOf_76 (by decide) ?_
    have hf := Option.some.inj hf
    subst hf
    exact zg_iret X hF rfl rfl () rfl rfl (Nat.le_of_ble_eq_true rfl) (Nat.le_of_ble_eq_true rfl) dX8_signOf_78
  · have hf := pl_f c1 hf
    by_cases c2 : a0 = 12
    · have hf := pl_t c2 hf
      refine zg_tblI (off := 78) (tgt := 79) X dX8_signOf_1 (by rw [c2]; decide) (by rw [c2]; decide) (by rw [c2]; rfl) (by decide) ?_
      refine zg_bipush (v := 44) X dX8_signOf_79 (by decide) ?_
      have hf := Option.some.inj hf
      subst hf
      exact zg_iret X hF rfl rfl () rfl rfl (Nat.le_of_ble_eq_true rfl) (Nat.le_of_ble_eq_true rfl) dX8_signOf_81
    · have hf := pl_f c2 hf
      by_cases c3 : a0 = 13
      · have hf := pl_t c3 hf
        refine zg_tblI (off := 81) (tgt := 82) X dX8_signOf_1 (by rw [c3]; decide) (by rw [c3]; decide) (by rw [c3]; rfl) (by decide) ?_
        refine zg_bipush (v := 58) X dX8_signOf_82 (by decide) ?_
        have hf := Option.some.inj hf
        subst hf
        exact zg_iret X hF rfl rfl () rfl rfl (Nat.le_of_ble_eq_true rfl) (Nat.le_of_ble_eq_true rfl) dX8_signOf_84
      · have hf := pl_f c3 hf
        by_cases c4 : a0 = 14
        · have hf := pl_t c4 hf
          refine zg_tblI (off := 84) (tgt := 85) X dX8_signOf_1 (by rw [c4]; decide) (by rw [c4]; decide) (by rw [c4]; rfl) (by decide) ?_
          refine zg_bipush (v := 59) X dX8_signOf_85 (by decide) ?_
          have hf := Option.some.inj hf
          subst hf
          exact zg_iret X hF rfl rfl () rfl rfl (Nat.le_of_ble_eq_true rfl) (Nat.le_of_ble_eq_true rfl) dX8_signOf_87
        · have hf := pl_f c4 hf
          by_cases c5 : a0 = 15
          · have hf := pl_t c5 hf
            refine zg_tblI (off := 87) (tgt := 88) X dX8_signOf_1 (by rw [c5]; decide) (by rw [c5]; decide) (by rw [c5]; rfl) (by decide) ?_
            refine zg_bipush (v := 63) X dX8_signOf_88 (by decide) ?_
            have hf := Option.some.inj hf
            subst hf
            exact zg_iret X hF rfl rfl () rfl rfl (Nat.le_of_ble_eq_true rfl) (Nat.le_of_ble_eq_true rfl) dX8_signOf_90
          · have hf := pl_f c5 hf
            by_cases c6 : a0 = 16
            · have hf := pl_t c6 hf
              refine zg_tblI (off := 90) (tgt := 91) X dX8_signOf_1 (by rw [c6]; decide) (by rw [c6]; decide) (by rw [c6]; rfl) (by decide) ?_
              refine zg_bipush (v := 33) X dX8_signOf_91 (by decide) ?_
              have hf := Option.some.inj hf
              subst hf
              exact zg_iret X hF rfl rfl () rfl rfl (Nat.le_of_ble_eq_true rfl) (Nat.le_of_ble_eq_true rfl) dX8_signOf_93
            · have hf := pl_f c6 hf
              by_cases c7 : a0 = 17
              · have hf := pl_t c7 hf
                refine zg_tblI (off := 93) (tgt := 94) X dX8_signOf_1 (by rw [c7]; decide) (by rw [c7]; decide) (by rw [c7]; rfl) (by decide) ?_
                refine zg_bipush (v := 39) X dX8_signOf_94 (by decide) ?_
                have hf := Option.some.inj hf
                subst hf
                exact zg_iret X hF rfl rfl () rfl rfl (Nat.le_of_ble_eq_true rfl) (Nat.le_of_ble_eq_true rfl) dX8_signOf_96
              · have hf := pl_f c7 hf
                by_cases c8 : a0 = 18
                · have hf := pl_t c8 hf
                  refine zg_tblI (off := 96) (tgt := 97) X dX8_signOf_1 (by rw [c8]; decide) (by rw [c8]; decide) (by rw [c8]; rfl) (by decide) ?_
                  refine zg_bipush (v := 40) X dX8_signOf_97 (by decide) ?_
                  have hf := Option.some.inj hf
                  subst hf
                  exact zg_iret X hF rfl rfl () rfl rfl (Nat.le_of_ble_eq_true rfl) (Nat.le_of_ble_eq_true rfl) dX8_signOf_99
                · have hf := pl_f c8 hf
                  by_cases c9 : a0 = 19
                  · have hf := pl_t c9 hf
                    refine zg_tblI (off := 99) (tgt := 100) X dX8_signOf_1 (by rw [c9]; decide) (by rw [c9]; decide) (by rw [c9]; rfl) (by decide) ?_
                    refine zg_bipush (v := 41) X dX8_signOf_100 (by decide) ?_
                    have hf := Option.some.inj hf
                    subst hf
                    exact zg_iret X hF rfl rfl () rfl rfl (Nat.le_of_ble_eq_true rfl) (Nat.le_of_ble_eq_true rfl) dX8_signOf_102
                  · have hf := pl_f c9 hf
                    by_cases c10 : a0 = 20
                    · have hf := pl_t c10 hf
                      refine zg_tblI (off := 102) (tgt := 103) X dX8_signOf_1 (by rw [c10]; decide) (by rw [c10]; decide) (by rw [c10]; rfl) (by decide) ?_
                      refine zg_bipush (v := 47) X dX8_signOf_103 (by decide) ?_
                      have hf := Option.some.inj hf
                      subst hf
                      exact zg_iret X hF rfl rfl () rfl rfl (Nat.le_of_ble_eq_true rfl) (Nat.le_of_ble_eq_true rfl) dX8_signOf_105
                    · have hf := pl_f c10 hf
                      by_cases c11 : a0 = 21
                      · have hf := pl_t c11 hf
                        refine zg_tblI (off := 105) (tgt := 106) X dX8_signOf_1 (by rw [c11]; decide) (by rw [c11]; decide) (by rw [c11]; rfl) (by decide) ?_
                        refine zg_bipush (v := 45) X dX8_signOf_106 (by decide) ?_
                        have hf := Option.some.inj hf
                        subst hf
                        exact zg_iret X hF rfl rfl () rfl rfl (Nat.le_of_ble_eq_true rfl) (Nat.le_of_ble_eq_true rfl) dX8_signOf_108
                      · have hf := pl_f c11 hf
                        by_cases c12 : a0 = 22
                        · have hf := pl_t c12 hf
                          refine zg_tblI (off := 108) (tgt := 109) X dX8_signOf_1 (by rw [c12]; decide) (by rw [c12]; decide) (by rw [c12]; rfl) (by decide) ?_
                          refine zg_bipush (v := 43) X dX8_signOf_109 (by decide) ?_
                          have hf := Option.some.inj hf
                          subst hf
                          exact zg_iret X hF rfl rfl () rfl rfl (Nat.le_of_ble_eq_true rfl) (Nat.le_of_ble_eq_true rfl) dX8_signOf_111
                        · have hf := pl_f c12 hf
                          by_cases c13 : a0 = 23
                          · have hf := pl_t c13 hf
                            refine zg_tblI (off := 111) (tgt := 112) X dX8_signOf_1 (by rw [c13]; decide) (by rw [c13]; decide) (by rw [c13]; rfl) (by decide) ?_
                            refine zg_bipush (v := 61) X dX8_signOf_112 (by decide) ?_
                            have hf := Option.some.inj hf
                            subst hf
                            exact zg_iret X hF rfl rfl () rfl rfl (Nat.le_of_ble_eq_true rfl) (Nat.le_of_ble_eq_true rfl) dX8_signOf_114
                          · have hf := pl_f c13 hf
                            by_cases c14 : a0 = 24
                            · have hf := pl_t c14 hf
                              refine zg_tblI (off := 114) (tgt := 115) X dX8_signOf_1 (by rw [c14]; decide) (by rw [c14]; decide) (by rw [c14]; rfl) (by decide) ?_
                              refine zg_bipush (v := 38) X dX8_signOf_115 (by decide) ?_
                              have hf := Option.some.inj hf
                              subst hf
                              exact zg_iret X hF rfl rfl () rfl rfl (Nat.le_of_ble_eq_true rfl) (Nat.le_of_ble_eq_true rfl) dX8_signOf_117
                            · have hf := pl_f c14 hf
                              by_cases c15 : a0 = 25
                              · have hf := pl_t c15 hf
                                refine zg_tblI (off := 117) (tgt := 118) X dX8_signOf_1 (by rw [c15]; decide) (by rw [c15]; decide) (by rw [c15]; rfl) (by decide) ?_
                                refine zg_bipush (v := 37) X dX8_signOf_118 (by decide) ?_
                                have hf := Option.some.inj hf
                                subst hf
                                exact zg_iret X hF rfl rfl () rfl rfl (Nat.le_of_ble_eq_true rfl) (Nat.le_of_ble_eq_true rfl) dX8_signOf_120
                              · have hf := pl_f c15 hf
                                refine zg_tblO (tgt := 121) X dX8_signOf_1 ?_ (by decide) ?_
                                · have t := pl_sw (x := a0) 11 15 (fun k hk => by
                                    match k, hk with
                                    | 0, _ => exact fun e => pl_ne c1 (i := 11) (by decide) (by omega)
                                    | 1, _ => exact fun e => pl_ne c2 (i := 12) (by decide) (by omega)
                                    | 2, _ => exact fun e => pl_ne c3 (i := 13) (by decide) (by omega)
                                    | 3, _ => exact fun e => pl_ne c4 (i := 14) (by decide) (by omega)
                                    | 4, _ => exact fun e => pl_ne c5 (i := 15) (by decide) (by omega)
                                    | 5, _ => exact fun e => pl_ne c6 (i := 16) (by decide) (by omega)
                                    | 6, _ => exact fun e => pl_ne c7 (i := 17) (by decide) (by omega)
                                    | 7, _ => exact fun e => pl_ne c8 (i := 18) (by decide) (by omega)
                                    | 8, _ => exact fun e => pl_ne c9 (i := 19) (by decide) (by omega)
                                    | 9, _ => exact fun e => pl_ne c10 (i := 20) (by decide) (by omega)
                                    | 10, _ => exact fun e => pl_ne c11 (i := 21) (by decide) (by omega)
                                    | 11, _ => exact fun e => pl_ne c12 (i := 22) (by decide) (by omega)
                                    | 12, _ => exact fun e => pl_ne c13 (i := 23) (by decide) (by omega)
                                    | 13, _ => exact fun e => pl_ne c14 (i := 24) (by decide) (by omega)
                                    | 14, _ => exact fun e => pl_ne c15 (i := 25) (by decide) (by omega)
                                    | k + 15, h => exact absurd h (by omega))
                                  omega
                                · skip
                                  refine zg_bipush (v := 34) X dX8_signOf_121 (by decide) ?_
                                  have hf := Option.some.inj hf
                                  subst hf
                                  exact zg_iret X hF rfl rfl () rfl rfl (Nat.le_of_ble_eq_true rfl) (Nat.le_of_ble_eq_true rfl) dX8_signOf_123
theorem zh_X8_characterOf : yX8_characterOf.cls = RX8 ∧ yX8_characterOf.cls ≠ "java/lang/invoke/MethodHandle" ∧ yX8_characterOf.cls ≠ "java/lang/invoke/VarHandle" ∧ (parseMethodDescriptor yX8_characterOf.desc).map (fun d => d.parameters.length) = some 2 := by decide +kernel
set_option maxHeartbeats 8000000 in
set_option maxRecDepth 100000 in
theorem zc_X8_characterOf (G : zgG) (a0 : Int32) (a1 : Int32) (fu : Nat) (res : Int32) (hf : zf_X8_characterOf fu a0 a1 = some res) : zgCt G yX8_characterOf wsX8_characterOf ({ frames := 1, cells := 0, slots := 0, locals := 20 } : Room) [.int a0, .int a1] [] (fun _ : Unit => some (.int res)) (fun _ => []) 0 0 := by
  refine zg_of (own := RX8) (cc := cX8_characterOf) (nL := 2) (ret := (some .int)) (by decide +kernel) rfl rfl (Nat.le_of_ble_eq_true rfl) (fun Z X hF => ?_)
  show zgGd G Z _ 0 0 2 _ 0 [(0, .int a0), (1, .int a1)] []
  unfold zf_X8_characterOf at hf
  refine zg_iload_n X dX8_characterOf_0 rfl 1 rfl ?_
  refine zg_if_ne (tgt := 11) X dX8_characterOf_1 (by decide) (fun c1 => ?_) (fun c1 => ?_)
  · have hf := pl_f c1 hf
    refine zg_iload_n X dX8_characterOf_11 rfl 0 rfl ?_
    refine zg_bipush (v := 10) X dX8_characterOf_12 (by decide) ?_
    refine zg_icmp_ne (tgt := 22) X dX8_characterOf_14 (by decide) (fun c2 => ?_) (fun c2 => ?_)
    · have hf := pl_f c2 hf
      refine zg_iload_n X dX8_characterOf_22 rfl 0 rfl ?_
      refine zg_bipush (v := 10) X dX8_characterOf_23 (by decide) ?_
      refine zg_icmp_ge (tgt := 35) X dX8_characterOf_25 (by decide) (fun c3 => ?_) (fun c3 => ?_)
      · have hf := pl_t c3 hf
        refine zg_iload_n X dX8_characterOf_35 rfl 0 rfl ?_
        obtain ⟨b4, hb4, hf⟩ := pl_b hf
        refine zg_cP1 X (zg_runS X (zc_X8_signOf G a0 fu b4 hb4) gX8_characterOf_X8_signOf rfl zh_X8_signOf.2 ⟨rfl, rfl⟩ ⟨Nat.le_of_ble_eq_true rfl, Nat.le_of_ble_eq_true rfl⟩ rfl (Nat.le_of_ble_eq_true rfl) ⟨Nat.le_of_ble_eq_true rfl, Nat.le_of_ble_eq_true rfl⟩ [] (by decide) rfl rfl dX8_characterOf_36) rfl ?_
        have hf := Option.some.inj hf
        subst hf
        exact zg_iret X hF rfl rfl () rfl rfl (Nat.le_of_ble_eq_true rfl) (Nat.le_of_ble_eq_true rfl) dX8_characterOf_39
      · have hf := pl_f c3 hf
        refine zg_bipush (v := 48) X dX8_characterOf_28 (by decide) ?_
        refine zg_iload_n X dX8_characterOf_30 rfl 0 rfl ?_
        refine zg_iadd X dX8_characterOf_31 ?_
        refine zg_goto (tgt := 39) X dX8_characterOf_32 (by decide) ?_
        obtain ⟨x5, ex5, hf⟩ := pl_l hf
        refine zg_topi ex5 ?_
        have hf := Option.some.inj hf
        subst hf
        exact zg_iret X hF rfl rfl () rfl rfl (Nat.le_of_ble_eq_true rfl) (Nat.le_of_ble_eq_true rfl) dX8_characterOf_39
    · have hf := pl_t c2 hf
      refine zg_bipush (v := 48) X dX8_characterOf_17 (by decide) ?_
      refine zg_goto (tgt := 39) X dX8_characterOf_19 (by decide) ?_
      have hf := Option.some.inj hf
      subst hf
      exact zg_iret X hF rfl rfl () rfl rfl (Nat.le_of_ble_eq_true rfl) (Nat.le_of_ble_eq_true rfl) dX8_characterOf_39
  · have hf := pl_t c1 hf
    refine zg_bipush (v := 97) X dX8_characterOf_4 (by decide) ?_
    refine zg_iload_n X dX8_characterOf_6 rfl 0 rfl ?_
    refine zg_iadd X dX8_characterOf_7 ?_
    refine zg_iconst (v := 1) X dX8_characterOf_8 (by decide) ?_
    refine zg_isub X dX8_characterOf_9 ?_
    obtain ⟨x6, ex6, hf⟩ := pl_l hf
    refine zg_topi ex6 ?_
    have hf := Option.some.inj hf
    subst hf
    exact zg_iret X hF rfl rfl () rfl rfl (Nat.le_of_ble_eq_true rfl) (Nat.le_of_ble_eq_true rfl) dX8_characterOf_10
theorem zh_X8_codeOfSign : yX8_codeOfSign.cls = RX8 ∧ yX8_codeOfSign.cls ≠ "java/lang/invoke/MethodHandle" ∧ yX8_codeOfSign.cls ≠ "java/lang/invoke/VarHandle" ∧ (parseMethodDescriptor yX8_codeOfSign.desc).map (fun d => d.parameters.length) = some 1 := by decide +kernel
set_option maxHeartbeats 8000000 in
set_option maxRecDepth 100000 in
theorem zc_X8_codeOfSign (G : zgG) (a0 : Int32) (fu : Nat) (res : Int32) (hf : zf_X8_codeOfSign fu a0 = some res) : zgCt G yX8_codeOfSign wsX8_codeOfSign ({ frames := 1, cells := 0, slots := 0, locals := 20 } : Room) [.int a0] [] (fun _ : Unit => some (.int res)) (fun _ => []) 0 0 := by
  refine zg_of (own := RX8) (cc := cX8_codeOfSign) (nL := 3) (ret := (some .int)) (by decide +kernel) rfl rfl (Nat.le_of_ble_eq_true rfl) (fun Z X hF => ?_)
  show zgGd G Z _ 0 0 3 _ 0 [(0, .int a0)] []
  have hL5 : ∀ (n : Nat) (y0 : Int32) (y1 : Int32) (y2 : Int32), zf_X8_codeOfSign_L5 fu n y0 y1 y2 = some res → zgGd G Z ({ frames := 1, cells := 0, slots := 0, locals := 20 } : Room) 0 0 3 [] 5 [(0, .int y0), (1, .int y1), (2, .int y2)] [] := by
    intro n
    induction n with
    | zero =>
      intro y0 y1 y2 hf
      rw [zf_X8_codeOfSign_L5] at hf
      cases hf
    | succ n5 ih5 =>
      have hb24 : ∀ (y0 : Int32) (y2 : Int32) (z0 : Int32), zf_X8_codeOfSign_b24 fu (zf_X8_codeOfSign_L5 fu n5) y0 y2 z0 = some res → zgGd G Z ({ frames := 1, cells := 0, slots := 0, locals := 20 } : Room) 0 0 3 [] 24 [(0, .int y0), (2, .int y2)] [.int z0] := by
        intro y0 y2 z0 hf
        unfold zf_X8_codeOfSign_b24 at hf
        refine zg_istore_n (L' := [(1, .int z0), (0, .int y0), (2, .int y2)]) X dX8_codeOfSign_24 rfl (by decide) rfl ?_
        obtain ⟨x4, ex4, hf⟩ := pl_l hf
        refine zg_iinc (v := x4) (L' := [(2, .int x4), (1, .int z0), (0, .int y0)]) X dX8_codeOfSign_25 (j := 2) rfl (by rw [ex4]; rfl) (by decide) rfl ?_
        refine zg_goto (tgt := 5) X dX8_codeOfSign_28 (by decide) ?_
        refine zg_loc [2, 1, 0] rfl ?_
        exact ih5 y0 z0 x4 hf
      intro y0 y1 y2 hf
      rw [zf_X8_codeOfSign_L5] at hf
      refine zg_iload_n X dX8_codeOfSign_5 rfl 2 rfl ?_
      refine zg_bipush (v := 27) X dX8_codeOfSign_6 (by decide) ?_
      refine zg_icmp_ge (tgt := 31) X dX8_codeOfSign_8 (by decide) (fun c1 => ?_) (fun c1 => ?_)
      · have hf := pl_t c1 hf
        refine zg_iload_n X dX8_codeOfSign_31 rfl 1 rfl ?_
        have hf := Option.some.inj hf
        subst hf
        exact zg_iret X hF rfl rfl () rfl rfl (Nat.le_of_ble_eq_true rfl) (Nat.le_of_ble_eq_true rfl) dX8_codeOfSign_32
      · have hf := pl_f c1 hf
        refine zg_iload_n X dX8_codeOfSign_11 rfl 2 rfl ?_
        obtain ⟨b2, hb2, hf⟩ := pl_b hf
        refine zg_cP1 X (zg_runS X (zc_X8_signOf G y2 fu b2 hb2) gX8_codeOfSign_X8_signOf rfl zh_X8_signOf.2 ⟨rfl, rfl⟩ ⟨Nat.le_of_ble_eq_true rfl, Nat.le_of_ble_eq_true rfl⟩ rfl (Nat.le_of_ble_eq_true rfl) ⟨Nat.le_of_ble_eq_true rfl, Nat.le_of_ble_eq_true rfl⟩ [] (by decide) rfl rfl dX8_codeOfSign_12) rfl ?_
        refine zg_iload_n X dX8_codeOfSign_15 rfl 0 rfl ?_
        refine zg_icmp_ne (tgt := 23) X dX8_codeOfSign_16 (by decide) (fun c3 => ?_) (fun c3 => ?_)
        · have hf := pl_f c3 hf
          refine zg_iload_n X dX8_codeOfSign_23 rfl 1 rfl ?_
          refine zg_loc [0, 2] rfl ?_
          exact hb24 y0 y2 y1 hf
        · have hf := pl_t c3 hf
          refine zg_iload_n X dX8_codeOfSign_19 rfl 2 rfl ?_
          refine zg_goto (tgt := 24) X dX8_codeOfSign_20 (by decide) ?_
          refine zg_loc [0, 2] rfl ?_
          exact hb24 y0 y2 y2 hf
  unfold zf_X8_codeOfSign at hf
  refine zg_iconst (v := 0) X dX8_codeOfSign_0 (by decide) ?_
  refine zg_istore_n (L' := [(1, .int 0), (0, .int a0)]) X dX8_codeOfSign_1 rfl (by decide) rfl ?_
  refine zg_bipush (v := 11) X dX8_codeOfSign_2 (by decide) ?_
  refine zg_istore_n (L' := [(2, .int 11), (1, .int 0), (0, .int a0)]) X dX8_codeOfSign_4 rfl (by decide) rfl ?_
  refine zg_loc [2, 1, 0] rfl ?_
  exact hL5 fu a0 0 11 hf
theorem zh_X8_codeOf : yX8_codeOf.cls = RX8 ∧ yX8_codeOf.cls ≠ "java/lang/invoke/MethodHandle" ∧ yX8_codeOf.cls ≠ "java/lang/invoke/VarHandle" ∧ (parseMethodDescriptor yX8_codeOf.desc).map (fun d => d.parameters.length) = some 1 := by decide +kernel
set_option maxHeartbeats 8000000 in
set_option maxRecDepth 100000 in
theorem zc_X8_codeOf (G : zgG) (a0 : Int32) (fu : Nat) (res : Int32) (hf : zf_X8_codeOf fu a0 = some res) : zgCt G yX8_codeOf wsX8_codeOf ({ frames := 2, cells := 0, slots := 0, locals := 42 } : Room) [.int a0] [] (fun _ : Unit => some (.int res)) (fun _ => []) 0 0 := by
  refine zg_of (own := RX8) (cc := cX8_codeOf) (nL := 1) (ret := (some .int)) (by decide +kernel) rfl rfl (Nat.le_of_ble_eq_true rfl) (fun Z X hF => ?_)
  show zgGd G Z _ 0 0 1 _ 0 [(0, .int a0)] []
  have hb75 : zf_X8_codeOf_b75 fu = some res → zgGd G Z ({ frames := 2, cells := 0, slots := 0, locals := 42 } : Room) 0 0 1 [] 75 [] [] := by
    intro hf
    unfold zf_X8_codeOf_b75 at hf
    refine zg_bipush (v := 29) X dX8_codeOf_75 (by decide) ?_
    refine zg_goto (tgt := 84) X dX8_codeOf_77 (by decide) ?_
    have hf := Option.some.inj hf
    subst hf
    exact zg_iret X hF rfl rfl () rfl rfl (Nat.le_of_ble_eq_true rfl) (Nat.le_of_ble_eq_true rfl) dX8_codeOf_84
  unfold zf_X8_codeOf at hf
  refine zg_iload_n X dX8_codeOf_0 rfl 0 rfl ?_
  obtain ⟨b1, hb1, hf⟩ := pl_b hf
  refine zg_cP1 X (zg_runS X (zc_X8_isLetter G a0 fu b1 hb1) gX8_codeOf_X8_isLetter rfl zh_X8_isLetter.2 ⟨rfl, rfl⟩ ⟨Nat.le_of_ble_eq_true rfl, Nat.le_of_ble_eq_true rfl⟩ rfl (Nat.le_of_ble_eq_true rfl) ⟨Nat.le_of_ble_eq_true rfl, Nat.le_of_ble_eq_true rfl⟩ [] (by decide) rfl rfl dX8_codeOf_1) rfl ?_
  refine zg_if_eq (tgt := 14) X dX8_codeOf_4 (by decide) (fun c2 => ?_) (fun c2 => ?_)
  · have hf := pl_t c2 hf
    refine zg_iload_n X dX8_codeOf_14 rfl 0 rfl ?_
    refine zg_bipush (v := 48) X dX8_codeOf_15 (by decide) ?_
    refine zg_bipush (v := 57) X dX8_codeOf_17 (by decide) ?_
    obtain ⟨b3, hb3, hf⟩ := pl_b hf
    refine zg_cP1 X (zg_runS X (zc_X8_in G a0 48 57 fu b3 hb3) gX8_codeOf_X8_in rfl zh_X8_in.2 ⟨rfl, rfl⟩ ⟨Nat.le_of_ble_eq_true rfl, Nat.le_of_ble_eq_true rfl⟩ rfl (Nat.le_of_ble_eq_true rfl) ⟨Nat.le_of_ble_eq_true rfl, Nat.le_of_ble_eq_true rfl⟩ [] (by decide) rfl rfl dX8_codeOf_19) rfl ?_
    refine zg_if_eq (tgt := 41) X dX8_codeOf_22 (by decide) (fun c4 => ?_) (fun c4 => ?_)
    · have hf := pl_t c4 hf
      refine zg_iload_n X dX8_codeOf_41 rfl 0 rfl ?_
      refine zg_bipush (v := 32) X dX8_codeOf_42 (by decide) ?_
      refine zg_icmp_ne (tgt := 52) X dX8_codeOf_44 (by decide) (fun c5 => ?_) (fun c5 => ?_)
      · have hf := pl_f c5 hf
        refine zg_iload_n X dX8_codeOf_52 rfl 0 rfl ?_
        refine zg_bipush (v := 10) X dX8_codeOf_53 (by decide) ?_
        refine zg_icmp_ne (tgt := 63) X dX8_codeOf_55 (by decide) (fun c6 => ?_) (fun c6 => ?_)
        · have hf := pl_f c6 hf
          refine zg_iload_n X dX8_codeOf_63 rfl 0 rfl ?_
          refine zg_bipush (v := 64) X dX8_codeOf_64 (by decide) ?_
          refine zg_icmp_eq (tgt := 75) X dX8_codeOf_66 (by decide) (fun c7 => ?_) (fun c7 => ?_)
          · have hf := pl_t c7 hf
            refine zg_loc [] rfl ?_
            exact hb75 hf
          · have hf := pl_f c7 hf
            refine zg_iload_n X dX8_codeOf_69 rfl 0 rfl ?_
            refine zg_bipush (v := 35) X dX8_codeOf_70 (by decide) ?_
            refine zg_icmp_ne (tgt := 80) X dX8_codeOf_72 (by decide) (fun c8 => ?_) (fun c8 => ?_)
            · have hf := pl_f c8 hf
              refine zg_iload_n X dX8_codeOf_80 rfl 0 rfl ?_
              obtain ⟨b9, hb9, hf⟩ := pl_b hf
              refine zg_cP1 X (zg_runS X (zc_X8_codeOfSign G a0 fu b9 hb9) gX8_codeOf_X8_codeOfSign rfl zh_X8_codeOfSign.2 ⟨rfl, rfl⟩ ⟨Nat.le_of_ble_eq_true rfl, Nat.le_of_ble_eq_true rfl⟩ rfl (Nat.le_of_ble_eq_true rfl) ⟨Nat.le_of_ble_eq_true rfl, Nat.le_of_ble_eq_true rfl⟩ [] (by decide) rfl rfl dX8_codeOf_81) rfl ?_
              have hf := Option.some.inj hf
              subst hf
              exact zg_iret X hF rfl rfl () rfl rfl (Nat.le_of_ble_eq_true rfl) (Nat.le_of_ble_eq_true rfl) dX8_codeOf_84
            · have hf := pl_t c8 hf
              refine zg_loc [] rfl ?_
              exact hb75 hf
        · have hf := pl_t c6 hf
          refine zg_bipush (v := 28) X dX8_codeOf_58 (by decide) ?_
          refine zg_goto (tgt := 84) X dX8_codeOf_60 (by decide) ?_
          have hf := Option.some.inj hf
          subst hf
          exact zg_iret X hF rfl rfl () rfl rfl (Nat.le_of_ble_eq_true rfl) (Nat.le_of_ble_eq_true rfl) dX8_codeOf_84
      · have hf := pl_t c5 hf
        refine zg_bipush (v := 27) X dX8_codeOf_47 (by decide) ?_
        refine zg_goto (tgt := 84) X dX8_codeOf_49 (by decide) ?_
        have hf := Option.some.inj hf
        subst hf
        exact zg_iret X hF rfl rfl () rfl rfl (Nat.le_of_ble_eq_true rfl) (Nat.le_of_ble_eq_true rfl) dX8_codeOf_84
    · have hf := pl_f c4 hf
      refine zg_iload_n X dX8_codeOf_25 rfl 0 rfl ?_
      refine zg_bipush (v := 48) X dX8_codeOf_26 (by decide) ?_
      refine zg_icmp_ne (tgt := 36) X dX8_codeOf_28 (by decide) (fun c10 => ?_) (fun c10 => ?_)
      · have hf := pl_f c10 hf
        refine zg_iload_n X dX8_codeOf_36 rfl 0 rfl ?_
        refine zg_bipush (v := 48) X dX8_codeOf_37 (by decide) ?_
        refine zg_isub X dX8_codeOf_39 ?_
        obtain ⟨x11, ex11, hf⟩ := pl_l hf
        refine zg_topi ex11 ?_
        have hf := Option.some.inj hf
        subst hf
        exact zg_iret X hF rfl rfl () rfl rfl (Nat.le_of_ble_eq_true rfl) (Nat.le_of_ble_eq_true rfl) dX8_codeOf_40
      · have hf := pl_t c10 hf
        refine zg_bipush (v := 10) X dX8_codeOf_31 (by decide) ?_
        refine zg_goto (tgt := 40) X dX8_codeOf_33 (by decide) ?_
        have hf := Option.some.inj hf
        subst hf
        exact zg_iret X hF rfl rfl () rfl rfl (Nat.le_of_ble_eq_true rfl) (Nat.le_of_ble_eq_true rfl) dX8_codeOf_40
  · have hf := pl_f c2 hf
    refine zg_iload_n X dX8_codeOf_7 rfl 0 rfl ?_
    refine zg_bipush (v := 97) X dX8_codeOf_8 (by decide) ?_
    refine zg_isub X dX8_codeOf_10 ?_
    refine zg_iconst (v := 1) X dX8_codeOf_11 (by decide) ?_
    refine zg_iadd X dX8_codeOf_12 ?_
    obtain ⟨x12, ex12, hf⟩ := pl_l hf
    refine zg_topi ex12 ?_
    have hf := Option.some.inj hf
    subst hf
    exact zg_iret X hF rfl rfl () rfl rfl (Nat.le_of_ble_eq_true rfl) (Nat.le_of_ble_eq_true rfl) dX8_codeOf_13
theorem zh_X8_shiftOf : yX8_shiftOf.cls = RX8 ∧ yX8_shiftOf.cls ≠ "java/lang/invoke/MethodHandle" ∧ yX8_shiftOf.cls ≠ "java/lang/invoke/VarHandle" ∧ (parseMethodDescriptor yX8_shiftOf.desc).map (fun d => d.parameters.length) = some 1 := by decide +kernel
set_option maxHeartbeats 8000000 in
set_option maxRecDepth 100000 in
theorem zc_X8_shiftOf (G : zgG) (a0 : Int32) (fu : Nat) (res : Int32) (hf : zf_X8_shiftOf fu a0 = some res) : zgCt G yX8_shiftOf wsX8_shiftOf ({ frames := 2, cells := 0, slots := 0, locals := 42 } : Room) [.int a0] [] (fun _ : Unit => some (.int res)) (fun _ => []) 0 0 := by
  refine zg_of (own := RX8) (cc := cX8_shiftOf) (nL := 1) (ret := (some .int)) (by decide +kernel) rfl rfl (Nat.le_of_ble_eq_true rfl) (fun Z X hF => ?_)
  show zgGd G Z _ 0 0 1 _ 0 [(0, .int a0)] []
  have hb13 : zf_X8_shiftOf_b13 fu = some res → zgGd G Z ({ frames := 2, cells := 0, slots := 0, locals := 42 } : Room) 0 0 1 [] 13 [] [] := by
    intro hf
    unfold zf_X8_shiftOf_b13 at hf
    refine zg_iconst (v := 0) X dX8_shiftOf_13 (by decide) ?_
    refine zg_goto (tgt := 34) X dX8_shiftOf_14 (by decide) ?_
    have hf := Option.some.inj hf
    subst hf
    exact zg_iret X hF rfl rfl () rfl rfl (Nat.le_of_ble_eq_true rfl) (Nat.le_of_ble_eq_true rfl) dX8_shiftOf_34
  have hb29 : zf_X8_shiftOf_b29 fu = some res → zgGd G Z ({ frames := 2, cells := 0, slots := 0, locals := 42 } : Room) 0 0 1 [] 29 [] [] := by
    intro hf
    unfold zf_X8_shiftOf_b29 at hf
    refine zg_iconst (v := (-1)) X dX8_shiftOf_29 (by decide) ?_
    refine zg_goto (tgt := 34) X dX8_shiftOf_30 (by decide) ?_
    have hf := Option.some.inj hf
    subst hf
    exact zg_iret X hF rfl rfl () rfl rfl (Nat.le_of_ble_eq_true rfl) (Nat.le_of_ble_eq_true rfl) dX8_shiftOf_34
  unfold zf_X8_shiftOf at hf
  refine zg_iload_n X dX8_shiftOf_0 rfl 0 rfl ?_
  obtain ⟨b1, hb1, hf⟩ := pl_b hf
  refine zg_cP1 X (zg_runS X (zc_X8_isLetter G a0 fu b1 hb1) gX8_shiftOf_X8_isLetter rfl zh_X8_isLetter.2 ⟨rfl, rfl⟩ ⟨Nat.le_of_ble_eq_true rfl, Nat.le_of_ble_eq_true rfl⟩ rfl (Nat.le_of_ble_eq_true rfl) ⟨Nat.le_of_ble_eq_true rfl, Nat.le_of_ble_eq_true rfl⟩ [] (by decide) rfl rfl dX8_shiftOf_1) rfl ?_
  refine zg_if_ne (tgt := 13) X dX8_shiftOf_4 (by decide) (fun c2 => ?_) (fun c2 => ?_)
  · have hf := pl_f c2 hf
    refine zg_loc [] rfl ?_
    exact hb13 hf
  · have hf := pl_t c2 hf
    refine zg_iload_n X dX8_shiftOf_7 rfl 0 rfl ?_
    refine zg_bipush (v := 64) X dX8_shiftOf_8 (by decide) ?_
    refine zg_icmp_ne (tgt := 17) X dX8_shiftOf_10 (by decide) (fun c3 => ?_) (fun c3 => ?_)
    · have hf := pl_f c3 hf
      refine zg_iload_n X dX8_shiftOf_17 rfl 0 rfl ?_
      refine zg_bipush (v := 32) X dX8_shiftOf_18 (by decide) ?_
      refine zg_icmp_eq (tgt := 29) X dX8_shiftOf_20 (by decide) (fun c4 => ?_) (fun c4 => ?_)
      · have hf := pl_t c4 hf
        refine zg_loc [] rfl ?_
        exact hb29 hf
      · have hf := pl_f c4 hf
        refine zg_iload_n X dX8_shiftOf_23 rfl 0 rfl ?_
        refine zg_bipush (v := 10) X dX8_shiftOf_24 (by decide) ?_
        refine zg_icmp_ne (tgt := 33) X dX8_shiftOf_26 (by decide) (fun c5 => ?_) (fun c5 => ?_)
        · have hf := pl_f c5 hf
          refine zg_iconst (v := 1) X dX8_shiftOf_33 (by decide) ?_
          have hf := Option.some.inj hf
          subst hf
          exact zg_iret X hF rfl rfl () rfl rfl (Nat.le_of_ble_eq_true rfl) (Nat.le_of_ble_eq_true rfl) dX8_shiftOf_34
        · have hf := pl_t c5 hf
          refine zg_loc [] rfl ?_
          exact hb29 hf
    · have hf := pl_t c3 hf
      refine zg_loc [] rfl ?_
      exact hb13 hf
theorem zh_X8_append : yX8_append.cls = RX8 ∧ yX8_append.cls ≠ "java/lang/invoke/MethodHandle" ∧ yX8_append.cls ≠ "java/lang/invoke/VarHandle" ∧ (parseMethodDescriptor yX8_append.desc).map (fun d => d.parameters.length) = some 1 := by decide +kernel
set_option maxHeartbeats 8000000 in
set_option maxRecDepth 100000 in
theorem zc_X8_append (G : zgG) (q0 q1 q2 q3 q4 q5 q6 q7 q8 : Nat) (v0 : zModel) (a1 : Int32) (fu : Nat) (res : (Int32 × zModel)) (hf : zf_X8_append fu v0 a1 = some res) : zgCt G yX8_append wsX8_append ({ frames := 3, cells := 0, slots := 0, locals := 62 } : Room) [.ref q0, .int a1] [(q0, .inr (7, [.ref q1, .ref q2, .int v0.2.2.1, .ref q3, .int v0.2.2.2.2.1, .int v0.2.2.2.2.2.1, .ref q4, .int v0.2.2.2.2.2.2.2.1, .ref q5, .ref q6, .ref q7, .int v0.2.2.2.2.2.2.2.2.2.2.2.1, .int v0.2.2.2.2.2.2.2.2.2.2.2.2.1, .int v0.2.2.2.2.2.2.2.2.2.2.2.2.2.1, .int v0.2.2.2.2.2.2.2.2.2.2.2.2.2.2.1, .ref q8, .int v0.2.2.2.2.2.2.2.2.2.2.2.2.2.2.2.2])), (q1, .inl (G.2.2.1, 946, .inl v0.1)), (q2, .inl (G.2.2.1, 5676, .inl v0.2.1)), (q3, .inl (G.2.2.1, 60, .inl v0.2.2.2.1)), (q4, .inl (G.2.2.1, 201, .inl v0.2.2.2.2.2.2.1)), (q5, .inl (G.2.2.1, 201, .inl v0.2.2.2.2.2.2.2.2.1)), (q6, .inl (G.2.2.1, 201, .inl v0.2.2.2.2.2.2.2.2.2.1)), (q7, .inl (G.2.2.1, 201, .inl v0.2.2.2.2.2.2.2.2.2.2.1)), (q8, .inl (G.2.2.1, 201, .inl v0.2.2.2.2.2.2.2.2.2.2.2.2.2.2.2.1))] (fun _ : Unit => some (.int res.1)) (fun _ => [(q0, .inr (7, [.ref q1, .ref q2, .int res.2.2.2.1, .ref q3, .int res.2.2.2.2.2.1, .int res.2.2.2.2.2.2.1, .ref q4, .int res.2.2.2.2.2.2.2.2.1, .ref q5, .ref q6, .ref q7, .int res.2.2.2.2.2.2.2.2.2.2.2.2.1, .int res.2.2.2.2.2.2.2.2.2.2.2.2.2.1, .int res.2.2.2.2.2.2.2.2.2.2.2.2.2.2.1, .int res.2.2.2.2.2.2.2.2.2.2.2.2.2.2.2.1, .ref q8, .int res.2.2.2.2.2.2.2.2.2.2.2.2.2.2.2.2.2])), (q1, .inl (G.2.2.1, 946, .inl res.2.1)), (q2, .inl (G.2.2.1, 5676, .inl res.2.2.1)), (q3, .inl (G.2.2.1, 60, .inl res.2.2.2.2.1)), (q4, .inl (G.2.2.1, 201, .inl res.2.2.2.2.2.2.2.1)), (q5, .inl (G.2.2.1, 201, .inl res.2.2.2.2.2.2.2.2.2.1)), (q6, .inl (G.2.2.1, 201, .inl res.2.2.2.2.2.2.2.2.2.2.1)), (q7, .inl (G.2.2.1, 201, .inl res.2.2.2.2.2.2.2.2.2.2.2.1)), (q8, .inl (G.2.2.1, 201, .inl res.2.2.2.2.2.2.2.2.2.2.2.2.2.2.2.2.1))]) 0 0 := by
  have hw0 : Cond.fieldLink RX8 62 "TelexReceiverModel" "length" "I" ∈ wsX8_append := by decide +kernel
  have hw1 : Cond.fieldLink RX8 16 "TelexReceiverModel" "buffer" "[I" ∈ wsX8_append := by decide +kernel
  have hiX8 : ∀ w ∈ u_ws RX8 TX8 17, w ∈ wsX8_append := by decide +kernel
  refine zg_of (own := RX8) (cc := cX8_append) (nL := 2) (ret := (some .int)) (by decide +kernel) rfl rfl (Nat.le_of_ble_eq_true rfl) (fun Z X hF => ?_)
  show zgGd G Z _ 0 0 2 _ 0 [(0, .ref q0), (1, .int a1)] []
  have hb26 : ∀ (y1 : Int32) (z1 : Int32) (w0 : (Nat → Int32)) (w1 : (Nat → Int32)) (w2 : Int32) (w3 : (Nat → Int32)) (w4 : Int32) (w5 : Int32) (w6 : (Nat → Int32)) (w7 : Int32) (w8 : (Nat → Int32)) (w9 : (Nat → Int32)) (w10 : (Nat → Int32)) (w11 : Int32) (w12 : Int32) (w13 : Int32) (w14 : Int32) (w15 : (Nat → Int32)) (w16 : Int32), zf_X8_append_b26 fu v0 y1 z1 w0 w1 w2 w3 w4 w5 w6 w7 w8 w9 w10 w11 w12 w13 w14 w15 w16 = some res → zgGd G Z ({ frames := 3, cells := 0, slots := 0, locals := 62 } : Room) 0 0 2 [(q0, .inr (7, [.ref q1, .ref q2, .int w2, .ref q3, .int w4, .int w5, .ref q4, .int w7, .ref q5, .ref q6, .ref q7, .int w11, .int w12, .int w13, .int w14, .ref q8, .int w16])), (q1, .inl (G.2.2.1, 946, .inl w0)), (q2, .inl (G.2.2.1, 5676, .inl w1)), (q3, .inl (G.2.2.1, 60, .inl w3)), (q4, .inl (G.2.2.1, 201, .inl w6)), (q5, .inl (G.2.2.1, 201, .inl w8)), (q6, .inl (G.2.2.1, 201, .inl w9)), (q7, .inl (G.2.2.1, 201, .inl w10)), (q8, .inl (G.2.2.1, 201, .inl w15))] 26 [(0, .ref q0), (1, .int y1)] [.int z1, .ref q0] := by
    intro y1 z1 w0 w1 w2 w3 w4 w5 w6 w7 w8 w9 w10 w11 w12 w13 w14 w15 w16 hf
    unfold zf_X8_append_b26 at hf
    obtain ⟨b4, hb4, hf⟩ := pl_b hf
    refine zg_cU1 (ws2 := [(q0, .inr (7, [.ref q1, .ref q2, .int b4.2.2.2.1, .ref q3, .int b4.2.2.2.2.2.1, .int b4.2.2.2.2.2.2.1, .ref q4, .int b4.2.2.2.2.2.2.2.2.1, .ref q5, .ref q6, .ref q7, .int b4.2.2.2.2.2.2.2.2.2.2.2.2.1, .int b4.2.2.2.2.2.2.2.2.2.2.2.2.2.1, .int b4.2.2.2.2.2.2.2.2.2.2.2.2.2.2.1, .int b4.2.2.2.2.2.2.2.2.2.2.2.2.2.2.2.1, .ref q8, .int b4.2.2.2.2.2.2.2.2.2.2.2.2.2.2.2.2.2])), (q1, .inl (G.2.2.1, 946, .inl b4.2.1)), (q2, .inl (G.2.2.1, 5676, .inl b4.2.2.1)), (q3, .inl (G.2.2.1, 60, .inl b4.2.2.2.2.1)), (q4, .inl (G.2.2.1, 201, .inl b4.2.2.2.2.2.2.2.1)), (q5, .inl (G.2.2.1, 201, .inl b4.2.2.2.2.2.2.2.2.2.1)), (q6, .inl (G.2.2.1, 201, .inl b4.2.2.2.2.2.2.2.2.2.2.1)), (q7, .inl (G.2.2.1, 201, .inl b4.2.2.2.2.2.2.2.2.2.2.2.1)), (q8, .inl (G.2.2.1, 201, .inl b4.2.2.2.2.2.2.2.2.2.2.2.2.2.2.2.2.1))]) X (zg_runV X (zc_X8_refused G q0 q1 q2 q3 q4 q5 q6 q7 q8 (w0, w1, w2, w3, w4, w5, w6, w7, w8, w9, w10, w11, w12, w13, w14, w15, w16) z1 fu b4 hb4) gX8_append_X8_refused rfl zh_X8_refused ⟨rfl, rfl⟩ ⟨Nat.le_of_ble_eq_true rfl, Nat.le_of_ble_eq_true rfl⟩ rfl rfl rfl (Nat.le_of_ble_eq_true rfl) ⟨Nat.le_of_ble_eq_true rfl, Nat.le_of_ble_eq_true rfl⟩ [0, 1, 2, 3, 4, 5, 6, 7, 8] (by decide) rfl rfl dX8_append_26) rfl rfl ?_
    refine zg_if_eq (tgt := 34) X dX8_append_29 (by decide) (fun c5 => ?_) (fun c5 => ?_)
    · have hf := pl_t c5 hf
      refine zg_aload_n X dX8_append_34 rfl 0 rfl ?_
      refine zg_get (C := RX8) (T := TX8) (N := 17) X 0 3 hiX8 rfl rfl (by decide) hw1 rfl dX8_append_35 ?_
      refine zg_aload_n X dX8_append_38 rfl 0 rfl ?_
      refine zg_get (C := RX8) (T := TX8) (N := 17) X 0 4 hiX8 rfl rfl (by decide) hw0 rfl dX8_append_39 ?_
      refine zg_iload_n X dX8_append_42 rfl 1 rfl ?_
      obtain ⟨hin, hf⟩ := pl_in hf
      obtain ⟨f6, ef6, hf⟩ := pl_l hf
      refine zg_iast (ws' := [(q0, .inr (7, [.ref q1, .ref q2, .int b4.2.2.2.1, .ref q3, .int b4.2.2.2.2.2.1, .int b4.2.2.2.2.2.2.1, .ref q4, .int b4.2.2.2.2.2.2.2.2.1, .ref q5, .ref q6, .ref q7, .int b4.2.2.2.2.2.2.2.2.2.2.2.2.1, .int b4.2.2.2.2.2.2.2.2.2.2.2.2.2.1, .int b4.2.2.2.2.2.2.2.2.2.2.2.2.2.2.1, .int b4.2.2.2.2.2.2.2.2.2.2.2.2.2.2.2.1, .ref q8, .int b4.2.2.2.2.2.2.2.2.2.2.2.2.2.2.2.2.2])), (q1, .inl (G.2.2.1, 946, .inl b4.2.1)), (q2, .inl (G.2.2.1, 5676, .inl b4.2.2.1)), (q3, .inl (G.2.2.1, 60, .inl f6)), (q4, .inl (G.2.2.1, 201, .inl b4.2.2.2.2.2.2.2.1)), (q5, .inl (G.2.2.1, 201, .inl b4.2.2.2.2.2.2.2.2.2.1)), (q6, .inl (G.2.2.1, 201, .inl b4.2.2.2.2.2.2.2.2.2.2.1)), (q7, .inl (G.2.2.1, 201, .inl b4.2.2.2.2.2.2.2.2.2.2.2.1)), (q8, .inl (G.2.2.1, 201, .inl b4.2.2.2.2.2.2.2.2.2.2.2.2.2.2.2.2.1))]) X 3 rfl hin (by subst ef6; rfl) dX8_append_43 ?_
      refine zg_aload_n X dX8_append_44 rfl 0 rfl ?_
      refine zg_dup X dX8_append_45 rfl ?_
      refine zg_get (C := RX8) (T := TX8) (N := 17) X 0 4 hiX8 rfl rfl (by decide) hw0 rfl dX8_append_46 ?_
      refine zg_iconst (v := 1) X dX8_append_49 (by decide) ?_
      refine zg_iadd X dX8_append_50 ?_
      obtain ⟨x7, ex7, hf⟩ := pl_l hf
      refine zg_topi ex7 ?_
      refine zg_put (C := RX8) (T := TX8) (N := 17) (ty := .int) (ws' := [(q0, .inr (7, [.ref q1, .ref q2, .int b4.2.2.2.1, .ref q3, .int x7, .int b4.2.2.2.2.2.2.1, .ref q4, .int b4.2.2.2.2.2.2.2.2.1, .ref q5, .ref q6, .ref q7, .int b4.2.2.2.2.2.2.2.2.2.2.2.2.1, .int b4.2.2.2.2.2.2.2.2.2.2.2.2.2.1, .int b4.2.2.2.2.2.2.2.2.2.2.2.2.2.2.1, .int b4.2.2.2.2.2.2.2.2.2.2.2.2.2.2.2.1, .ref q8, .int b4.2.2.2.2.2.2.2.2.2.2.2.2.2.2.2.2.2])), (q1, .inl (G.2.2.1, 946, .inl b4.2.1)), (q2, .inl (G.2.2.1, 5676, .inl b4.2.2.1)), (q3, .inl (G.2.2.1, 60, .inl f6)), (q4, .inl (G.2.2.1, 201, .inl b4.2.2.2.2.2.2.2.1)), (q5, .inl (G.2.2.1, 201, .inl b4.2.2.2.2.2.2.2.2.2.1)), (q6, .inl (G.2.2.1, 201, .inl b4.2.2.2.2.2.2.2.2.2.2.1)), (q7, .inl (G.2.2.1, 201, .inl b4.2.2.2.2.2.2.2.2.2.2.2.1)), (q8, .inl (G.2.2.1, 201, .inl b4.2.2.2.2.2.2.2.2.2.2.2.2.2.2.2.2.1))]) X 0 4 hiX8 tyX8 tyX8_ok nmX8 rfl rfl (by decide) hw0 rfl (by decide +kernel) rfl rfl (Nat.le_of_ble_eq_true rfl) rfl dX8_append_51 ?_
      refine zg_aload_n X dX8_append_54 rfl 0 rfl ?_
      refine zg_get (C := RX8) (T := TX8) (N := 17) X 0 4 hiX8 rfl rfl (by decide) hw0 rfl dX8_append_55 ?_
      have hf := Option.some.inj hf
      subst hf
      exact zg_iret X hF rfl rfl () rfl rfl (Nat.le_of_ble_eq_true rfl) (Nat.le_of_ble_eq_true rfl) dX8_append_58
    · have hf := pl_f c5 hf
      refine zg_iconst (v := 0) X dX8_append_32 (by decide) ?_
      have hf := Option.some.inj hf
      subst hf
      exact zg_iret X hF rfl rfl () rfl rfl (Nat.le_of_ble_eq_true rfl) (Nat.le_of_ble_eq_true rfl) dX8_append_33
  unfold zf_X8_append at hf
  refine zg_aload_n X dX8_append_0 rfl 0 rfl ?_
  refine zg_iload_n X dX8_append_1 rfl 1 rfl ?_
  obtain ⟨b1, hb1, hf⟩ := pl_b hf
  refine zg_cP1 X (zg_runS X (zc_X8_codeOf G a1 fu b1 hb1) gX8_append_X8_codeOf rfl zh_X8_codeOf.2 ⟨rfl, rfl⟩ ⟨Nat.le_of_ble_eq_true rfl, Nat.le_of_ble_eq_true rfl⟩ rfl (Nat.le_of_ble_eq_true rfl) ⟨Nat.le_of_ble_eq_true rfl, Nat.le_of_ble_eq_true rfl⟩ [] (by decide) rfl rfl dX8_append_2) rfl ?_
  refine zg_if_ne (tgt := 12) X dX8_append_5 (by decide) (fun c2 => ?_) (fun c2 => ?_)
  · have hf := pl_f c2 hf
    refine zg_aload_n X dX8_append_12 rfl 0 rfl ?_
    refine zg_get (C := RX8) (T := TX8) (N := 17) X 0 4 hiX8 rfl rfl (by decide) hw0 rfl dX8_append_13 ?_
    refine zg_bipush (v := 60) X dX8_append_16 (by decide) ?_
    refine zg_icmp_ne (tgt := 25) X dX8_append_18 (by decide) (fun c3 => ?_) (fun c3 => ?_)
    · have hf := pl_f c3 hf
      refine zg_iconst (v := 0) X dX8_append_25 (by decide) ?_
      exact hb26 a1 0 v0.1 v0.2.1 v0.2.2.1 v0.2.2.2.1 v0.2.2.2.2.1 v0.2.2.2.2.2.1 v0.2.2.2.2.2.2.1 v0.2.2.2.2.2.2.2.1 v0.2.2.2.2.2.2.2.2.1 v0.2.2.2.2.2.2.2.2.2.1 v0.2.2.2.2.2.2.2.2.2.2.1 v0.2.2.2.2.2.2.2.2.2.2.2.1 v0.2.2.2.2.2.2.2.2.2.2.2.2.1 v0.2.2.2.2.2.2.2.2.2.2.2.2.2.1 v0.2.2.2.2.2.2.2.2.2.2.2.2.2.2.1 v0.2.2.2.2.2.2.2.2.2.2.2.2.2.2.2.1 v0.2.2.2.2.2.2.2.2.2.2.2.2.2.2.2.2 hf
    · have hf := pl_t c3 hf
      refine zg_iconst (v := 2) X dX8_append_21 (by decide) ?_
      refine zg_goto (tgt := 26) X dX8_append_22 (by decide) ?_
      exact hb26 a1 2 v0.1 v0.2.1 v0.2.2.1 v0.2.2.2.1 v0.2.2.2.2.1 v0.2.2.2.2.2.1 v0.2.2.2.2.2.2.1 v0.2.2.2.2.2.2.2.1 v0.2.2.2.2.2.2.2.2.1 v0.2.2.2.2.2.2.2.2.2.1 v0.2.2.2.2.2.2.2.2.2.2.1 v0.2.2.2.2.2.2.2.2.2.2.2.1 v0.2.2.2.2.2.2.2.2.2.2.2.2.1 v0.2.2.2.2.2.2.2.2.2.2.2.2.2.1 v0.2.2.2.2.2.2.2.2.2.2.2.2.2.2.1 v0.2.2.2.2.2.2.2.2.2.2.2.2.2.2.2.1 v0.2.2.2.2.2.2.2.2.2.2.2.2.2.2.2.2 hf
  · have hf := pl_t c2 hf
    refine zg_iconst (v := 1) X dX8_append_8 (by decide) ?_
    refine zg_goto (tgt := 26) X dX8_append_9 (by decide) ?_
    exact hb26 a1 1 v0.1 v0.2.1 v0.2.2.1 v0.2.2.2.1 v0.2.2.2.2.1 v0.2.2.2.2.2.1 v0.2.2.2.2.2.2.1 v0.2.2.2.2.2.2.2.1 v0.2.2.2.2.2.2.2.2.1 v0.2.2.2.2.2.2.2.2.2.1 v0.2.2.2.2.2.2.2.2.2.2.1 v0.2.2.2.2.2.2.2.2.2.2.2.1 v0.2.2.2.2.2.2.2.2.2.2.2.2.1 v0.2.2.2.2.2.2.2.2.2.2.2.2.2.1 v0.2.2.2.2.2.2.2.2.2.2.2.2.2.2.1 v0.2.2.2.2.2.2.2.2.2.2.2.2.2.2.2.1 v0.2.2.2.2.2.2.2.2.2.2.2.2.2.2.2.2 hf
theorem zh_X8_clearBuffer : yX8_clearBuffer.cls = RX8 ∧ yX8_clearBuffer.cls ≠ "java/lang/invoke/MethodHandle" ∧ yX8_clearBuffer.cls ≠ "java/lang/invoke/VarHandle" ∧ (parseMethodDescriptor yX8_clearBuffer.desc).map (fun d => d.parameters.length) = some 0 := by decide +kernel
set_option maxHeartbeats 8000000 in
set_option maxRecDepth 100000 in
theorem zc_X8_clearBuffer (G : zgG) (q0 q1 q2 q3 q4 q5 q6 q7 q8 : Nat) (v0 : zModel) (fu : Nat) (res : (Int32 × zModel)) (hf : zf_X8_clearBuffer fu v0 = some res) : zgCt G yX8_clearBuffer wsX8_clearBuffer ({ frames := 0, cells := 0, slots := 0, locals := 0 } : Room) [.ref q0] [(q0, .inr (7, [.ref q1, .ref q2, .int v0.2.2.1, .ref q3, .int v0.2.2.2.2.1, .int v0.2.2.2.2.2.1, .ref q4, .int v0.2.2.2.2.2.2.2.1, .ref q5, .ref q6, .ref q7, .int v0.2.2.2.2.2.2.2.2.2.2.2.1, .int v0.2.2.2.2.2.2.2.2.2.2.2.2.1, .int v0.2.2.2.2.2.2.2.2.2.2.2.2.2.1, .int v0.2.2.2.2.2.2.2.2.2.2.2.2.2.2.1, .ref q8, .int v0.2.2.2.2.2.2.2.2.2.2.2.2.2.2.2.2])), (q1, .inl (G.2.2.1, 946, .inl v0.1)), (q2, .inl (G.2.2.1, 5676, .inl v0.2.1)), (q3, .inl (G.2.2.1, 60, .inl v0.2.2.2.1)), (q4, .inl (G.2.2.1, 201, .inl v0.2.2.2.2.2.2.1)), (q5, .inl (G.2.2.1, 201, .inl v0.2.2.2.2.2.2.2.2.1)), (q6, .inl (G.2.2.1, 201, .inl v0.2.2.2.2.2.2.2.2.2.1)), (q7, .inl (G.2.2.1, 201, .inl v0.2.2.2.2.2.2.2.2.2.2.1)), (q8, .inl (G.2.2.1, 201, .inl v0.2.2.2.2.2.2.2.2.2.2.2.2.2.2.2.1))] (fun _ : Unit => some (.int res.1)) (fun _ => [(q0, .inr (7, [.ref q1, .ref q2, .int res.2.2.2.1, .ref q3, .int res.2.2.2.2.2.1, .int res.2.2.2.2.2.2.1, .ref q4, .int res.2.2.2.2.2.2.2.2.1, .ref q5, .ref q6, .ref q7, .int res.2.2.2.2.2.2.2.2.2.2.2.2.1, .int res.2.2.2.2.2.2.2.2.2.2.2.2.2.1, .int res.2.2.2.2.2.2.2.2.2.2.2.2.2.2.1, .int res.2.2.2.2.2.2.2.2.2.2.2.2.2.2.2.1, .ref q8, .int res.2.2.2.2.2.2.2.2.2.2.2.2.2.2.2.2.2])), (q1, .inl (G.2.2.1, 946, .inl res.2.1)), (q2, .inl (G.2.2.1, 5676, .inl res.2.2.1)), (q3, .inl (G.2.2.1, 60, .inl res.2.2.2.2.1)), (q4, .inl (G.2.2.1, 201, .inl res.2.2.2.2.2.2.2.1)), (q5, .inl (G.2.2.1, 201, .inl res.2.2.2.2.2.2.2.2.2.1)), (q6, .inl (G.2.2.1, 201, .inl res.2.2.2.2.2.2.2.2.2.2.1)), (q7, .inl (G.2.2.1, 201, .inl res.2.2.2.2.2.2.2.2.2.2.2.1)), (q8, .inl (G.2.2.1, 201, .inl res.2.2.2.2.2.2.2.2.2.2.2.2.2.2.2.2.1))]) 0 0 := by
  have hw0 : Cond.fieldLink RX8 38 "TelexReceiverModel" "thrown" "I" ∈ wsX8_clearBuffer := by decide +kernel
  have hw1 : Cond.fieldLink RX8 62 "TelexReceiverModel" "length" "I" ∈ wsX8_clearBuffer := by decide +kernel
  have hiX8 : ∀ w ∈ u_ws RX8 TX8 17, w ∈ wsX8_clearBuffer := by decide +kernel
  refine zg_of (own := RX8) (cc := cX8_clearBuffer) (nL := 2) (ret := (some .int)) (by decide +kernel) rfl rfl (Nat.le_of_ble_eq_true rfl) (fun Z X hF => ?_)
  show zgGd G Z _ 0 0 2 _ 0 [(0, .ref q0)] []
  unfold zf_X8_clearBuffer at hf
  refine zg_aload_n X dX8_clearBuffer_0 rfl 0 rfl ?_
  refine zg_iconst (v := 0) X dX8_clearBuffer_1 (by decide) ?_
  refine zg_put (C := RX8) (T := TX8) (N := 17) (ty := .int) (ws' := [(q0, .inr (7, [.ref q1, .ref q2, .int v0.2.2.1, .ref q3, .int v0.2.2.2.2.1, .int 0, .ref q4, .int v0.2.2.2.2.2.2.2.1, .ref q5, .ref q6, .ref q7, .int v0.2.2.2.2.2.2.2.2.2.2.2.1, .int v0.2.2.2.2.2.2.2.2.2.2.2.2.1, .int v0.2.2.2.2.2.2.2.2.2.2.2.2.2.1, .int v0.2.2.2.2.2.2.2.2.2.2.2.2.2.2.1, .ref q8, .int v0.2.2.2.2.2.2.2.2.2.2.2.2.2.2.2.2])), (q1, .inl (G.2.2.1, 946, .inl v0.1)), (q2, .inl (G.2.2.1, 5676, .inl v0.2.1)), (q3, .inl (G.2.2.1, 60, .inl v0.2.2.2.1)), (q4, .inl (G.2.2.1, 201, .inl v0.2.2.2.2.2.2.1)), (q5, .inl (G.2.2.1, 201, .inl v0.2.2.2.2.2.2.2.2.1)), (q6, .inl (G.2.2.1, 201, .inl v0.2.2.2.2.2.2.2.2.2.1)), (q7, .inl (G.2.2.1, 201, .inl v0.2.2.2.2.2.2.2.2.2.2.1)), (q8, .inl (G.2.2.1, 201, .inl v0.2.2.2.2.2.2.2.2.2.2.2.2.2.2.2.1))]) X 0 5 hiX8 tyX8 tyX8_ok nmX8 rfl rfl (by decide) hw0 rfl (by decide +kernel) rfl rfl (Nat.le_of_ble_eq_true rfl) rfl dX8_clearBuffer_2 ?_
  refine zg_aload_n X dX8_clearBuffer_5 rfl 0 rfl ?_
  refine zg_get (C := RX8) (T := TX8) (N := 17) X 0 4 hiX8 rfl rfl (by decide) hw1 rfl dX8_clearBuffer_6 ?_
  refine zg_istore_n (L' := [(1, .int v0.2.2.2.2.1), (0, .ref q0)]) X dX8_clearBuffer_9 rfl (by decide) rfl ?_
  refine zg_aload_n X dX8_clearBuffer_10 rfl 1 rfl ?_
  refine zg_iconst (v := 0) X dX8_clearBuffer_11 (by decide) ?_
  refine zg_put (C := RX8) (T := TX8) (N := 17) (ty := .int) (ws' := [(q0, .inr (7, [.ref q1, .ref q2, .int v0.2.2.1, .ref q3, .int 0, .int 0, .ref q4, .int v0.2.2.2.2.2.2.2.1, .ref q5, .ref q6, .ref q7, .int v0.2.2.2.2.2.2.2.2.2.2.2.1, .int v0.2.2.2.2.2.2.2.2.2.2.2.2.1, .int v0.2.2.2.2.2.2.2.2.2.2.2.2.2.1, .int v0.2.2.2.2.2.2.2.2.2.2.2.2.2.2.1, .ref q8, .int v0.2.2.2.2.2.2.2.2.2.2.2.2.2.2.2.2])), (q1, .inl (G.2.2.1, 946, .inl v0.1)), (q2, .inl (G.2.2.1, 5676, .inl v0.2.1)), (q3, .inl (G.2.2.1, 60, .inl v0.2.2.2.1)), (q4, .inl (G.2.2.1, 201, .inl v0.2.2.2.2.2.2.1)), (q5, .inl (G.2.2.1, 201, .inl v0.2.2.2.2.2.2.2.2.1)), (q6, .inl (G.2.2.1, 201, .inl v0.2.2.2.2.2.2.2.2.2.1)), (q7, .inl (G.2.2.1, 201, .inl v0.2.2.2.2.2.2.2.2.2.2.1)), (q8, .inl (G.2.2.1, 201, .inl v0.2.2.2.2.2.2.2.2.2.2.2.2.2.2.2.1))]) X 0 4 hiX8 tyX8 tyX8_ok nmX8 rfl rfl (by decide) hw1 rfl (by decide +kernel) rfl rfl (Nat.le_of_ble_eq_true rfl) rfl dX8_clearBuffer_12 ?_
  refine zg_iload_n X dX8_clearBuffer_15 rfl 0 rfl ?_
  have hf := Option.some.inj hf
  subst hf
  exact zg_iret X hF rfl rfl () rfl rfl (Nat.le_of_ble_eq_true rfl) (Nat.le_of_ble_eq_true rfl) dX8_clearBuffer_16
theorem zh_X8_needed : yX8_needed.cls = RX8 ∧ yX8_needed.cls ≠ "java/lang/invoke/MethodHandle" ∧ yX8_needed.cls ≠ "java/lang/invoke/VarHandle" ∧ (parseMethodDescriptor yX8_needed.desc).map (fun d => d.parameters.length) = some 0 := by decide +kernel
set_option maxHeartbeats 8000000 in
set_option maxRecDepth 100000 in
theorem zc_X8_needed (G : zgG) (q0 q1 q2 q3 q4 q5 q6 q7 q8 : Nat) (v0 : zModel) (fu : Nat) (res : Int32) (hf : zf_X8_needed fu v0 = some res) : zgCt G yX8_needed wsX8_needed ({ frames := 3, cells := 0, slots := 0, locals := 62 } : Room) [.ref q0] [(q0, .inr (7, [.ref q1, .ref q2, .int v0.2.2.1, .ref q3, .int v0.2.2.2.2.1, .int v0.2.2.2.2.2.1, .ref q4, .int v0.2.2.2.2.2.2.2.1, .ref q5, .ref q6, .ref q7, .int v0.2.2.2.2.2.2.2.2.2.2.2.1, .int v0.2.2.2.2.2.2.2.2.2.2.2.2.1, .int v0.2.2.2.2.2.2.2.2.2.2.2.2.2.1, .int v0.2.2.2.2.2.2.2.2.2.2.2.2.2.2.1, .ref q8, .int v0.2.2.2.2.2.2.2.2.2.2.2.2.2.2.2.2])), (q1, .inl (G.2.2.1, 946, .inl v0.1)), (q2, .inl (G.2.2.1, 5676, .inl v0.2.1)), (q3, .inl (G.2.2.1, 60, .inl v0.2.2.2.1)), (q4, .inl (G.2.2.1, 201, .inl v0.2.2.2.2.2.2.1)), (q5, .inl (G.2.2.1, 201, .inl v0.2.2.2.2.2.2.2.2.1)), (q6, .inl (G.2.2.1, 201, .inl v0.2.2.2.2.2.2.2.2.2.1)), (q7, .inl (G.2.2.1, 201, .inl v0.2.2.2.2.2.2.2.2.2.2.1)), (q8, .inl (G.2.2.1, 201, .inl v0.2.2.2.2.2.2.2.2.2.2.2.2.2.2.2.1))] (fun _ : Unit => some (.int res)) (fun _ => [(q0, .inr (7, [.ref q1, .ref q2, .int v0.2.2.1, .ref q3, .int v0.2.2.2.2.1, .int v0.2.2.2.2.2.1, .ref q4, .int v0.2.2.2.2.2.2.2.1, .ref q5, .ref q6, .ref q7, .int v0.2.2.2.2.2.2.2.2.2.2.2.1, .int v0.2.2.2.2.2.2.2.2.2.2.2.2.1, .int v0.2.2.2.2.2.2.2.2.2.2.2.2.2.1, .int v0.2.2.2.2.2.2.2.2.2.2.2.2.2.2.1, .ref q8, .int v0.2.2.2.2.2.2.2.2.2.2.2.2.2.2.2.2])), (q1, .inl (G.2.2.1, 946, .inl v0.1)), (q2, .inl (G.2.2.1, 5676, .inl v0.2.1)), (q3, .inl (G.2.2.1, 60, .inl v0.2.2.2.1)), (q4, .inl (G.2.2.1, 201, .inl v0.2.2.2.2.2.2.1)), (q5, .inl (G.2.2.1, 201, .inl v0.2.2.2.2.2.2.2.2.1)), (q6, .inl (G.2.2.1, 201, .inl v0.2.2.2.2.2.2.2.2.2.1)), (q7, .inl (G.2.2.1, 201, .inl v0.2.2.2.2.2.2.2.2.2.2.1)), (q8, .inl (G.2.2.1, 201, .inl v0.2.2.2.2.2.2.2.2.2.2.2.2.2.2.2.1))]) 0 0 := by
  have hw0 : Cond.fieldLink RX8 7 "TelexReceiverModel" "s" "[I" ∈ wsX8_needed := by decide +kernel
  have hw1 : Cond.fieldLink RX8 62 "TelexReceiverModel" "length" "I" ∈ wsX8_needed := by decide +kernel
  have hw2 : Cond.fieldLink RX8 16 "TelexReceiverModel" "buffer" "[I" ∈ wsX8_needed := by decide +kernel
  have hiX8 : ∀ w ∈ u_ws RX8 TX8 17, w ∈ wsX8_needed := by decide +kernel
  refine zg_of (own := RX8) (cc := cX8_needed) (nL := 5) (ret := (some .int)) (by decide +kernel) rfl rfl (Nat.le_of_ble_eq_true rfl) (fun Z X hF => ?_)
  show zgGd G Z _ 0 0 5 _ 0 [(0, .ref q0)] []
  have hL13 : ∀ (n : Nat) (y1 : Int32) (y2 : Int32) (y3 : Int32), zf_X8_needed_L13 fu v0 n y1 y2 y3 = some res → zgGd G Z ({ frames := 3, cells := 0, slots := 0, locals := 62 } : Room) 0 0 5 [(q0, .inr (7, [.ref q1, .ref q2, .int v0.2.2.1, .ref q3, .int v0.2.2.2.2.1, .int v0.2.2.2.2.2.1, .ref q4, .int v0.2.2.2.2.2.2.2.1, .ref q5, .ref q6, .ref q7, .int v0.2.2.2.2.2.2.2.2.2.2.2.1, .int v0.2.2.2.2.2.2.2.2.2.2.2.2.1, .int v0.2.2.2.2.2.2.2.2.2.2.2.2.2.1, .int v0.2.2.2.2.2.2.2.2.2.2.2.2.2.2.1, .ref q8, .int v0.2.2.2.2.2.2.2.2.2.2.2.2.2.2.2.2])), (q1, .inl (G.2.2.1, 946, .inl v0.1)), (q2, .inl (G.2.2.1, 5676, .inl v0.2.1)), (q3, .inl (G.2.2.1, 60, .inl v0.2.2.2.1)), (q4, .inl (G.2.2.1, 201, .inl v0.2.2.2.2.2.2.1)), (q5, .inl (G.2.2.1, 201, .inl v0.2.2.2.2.2.2.2.2.1)), (q6, .inl (G.2.2.1, 201, .inl v0.2.2.2.2.2.2.2.2.2.1)), (q7, .inl (G.2.2.1, 201, .inl v0.2.2.2.2.2.2.2.2.2.2.1)), (q8, .inl (G.2.2.1, 201, .inl v0.2.2.2.2.2.2.2.2.2.2.2.2.2.2.2.1))] 13 [(0, .ref q0), (1, .int y1), (2, .int y2), (3, .int y3)] [] := by
    intro n
    induction n with
    | zero =>
      intro y1 y2 y3 hf
      rw [zf_X8_needed_L13] at hf
      cases hf
    | succ n13 ih13 =>
      have hb93 : ∀ (y2 : Int32) (y3 : Int32) (z0 : Int32), zf_X8_needed_b93 fu v0 (zf_X8_needed_L13 fu v0 n13) y2 y3 z0 = some res → zgGd G Z ({ frames := 3, cells := 0, slots := 0, locals := 62 } : Room) 0 0 5 [(q0, .inr (7, [.ref q1, .ref q2, .int v0.2.2.1, .ref q3, .int v0.2.2.2.2.1, .int v0.2.2.2.2.2.1, .ref q4, .int v0.2.2.2.2.2.2.2.1, .ref q5, .ref q6, .ref q7, .int v0.2.2.2.2.2.2.2.2.2.2.2.1, .int v0.2.2.2.2.2.2.2.2.2.2.2.2.1, .int v0.2.2.2.2.2.2.2.2.2.2.2.2.2.1, .int v0.2.2.2.2.2.2.2.2.2.2.2.2.2.2.1, .ref q8, .int v0.2.2.2.2.2.2.2.2.2.2.2.2.2.2.2.2])), (q1, .inl (G.2.2.1, 946, .inl v0.1)), (q2, .inl (G.2.2.1, 5676, .inl v0.2.1)), (q3, .inl (G.2.2.1, 60, .inl v0.2.2.2.1)), (q4, .inl (G.2.2.1, 201, .inl v0.2.2.2.2.2.2.1)), (q5, .inl (G.2.2.1, 201, .inl v0.2.2.2.2.2.2.2.2.1)), (q6, .inl (G.2.2.1, 201, .inl v0.2.2.2.2.2.2.2.2.2.1)), (q7, .inl (G.2.2.1, 201, .inl v0.2.2.2.2.2.2.2.2.2.2.1)), (q8, .inl (G.2.2.1, 201, .inl v0.2.2.2.2.2.2.2.2.2.2.2.2.2.2.2.1))] 93 [(0, .ref q0), (2, .int y2), (3, .int y3)] [.int z0] := by
        intro y2 y3 z0 hf
        unfold zf_X8_needed_b93 at hf
        refine zg_istore_n (L' := [(1, .int z0), (0, .ref q0), (2, .int y2), (3, .int y3)]) X dX8_needed_93 rfl (by decide) rfl ?_
        obtain ⟨x13, ex13, hf⟩ := pl_l hf
        refine zg_iinc (v := x13) (L' := [(3, .int x13), (1, .int z0), (0, .ref q0), (2, .int y2)]) X dX8_needed_94 (j := 3) rfl (by rw [ex13]; rfl) (by decide) rfl ?_
        refine zg_goto (tgt := 13) X dX8_needed_97 (by decide) ?_
        refine zg_loc [2, 1, 3, 0] rfl ?_
        exact ih13 z0 y2 x13 hf
      have hb92 : ∀ (y1 : Int32) (y2 : Int32) (y3 : Int32), zf_X8_needed_b92 fu v0 (zf_X8_needed_L13 fu v0 n13) y1 y2 y3 = some res → zgGd G Z ({ frames := 3, cells := 0, slots := 0, locals := 62 } : Room) 0 0 5 [(q0, .inr (7, [.ref q1, .ref q2, .int v0.2.2.1, .ref q3, .int v0.2.2.2.2.1, .int v0.2.2.2.2.2.1, .ref q4, .int v0.2.2.2.2.2.2.2.1, .ref q5, .ref q6, .ref q7, .int v0.2.2.2.2.2.2.2.2.2.2.2.1, .int v0.2.2.2.2.2.2.2.2.2.2.2.2.1, .int v0.2.2.2.2.2.2.2.2.2.2.2.2.2.1, .int v0.2.2.2.2.2.2.2.2.2.2.2.2.2.2.1, .ref q8, .int v0.2.2.2.2.2.2.2.2.2.2.2.2.2.2.2.2])), (q1, .inl (G.2.2.1, 946, .inl v0.1)), (q2, .inl (G.2.2.1, 5676, .inl v0.2.1)), (q3, .inl (G.2.2.1, 60, .inl v0.2.2.2.1)), (q4, .inl (G.2.2.1, 201, .inl v0.2.2.2.2.2.2.1)), (q5, .inl (G.2.2.1, 201, .inl v0.2.2.2.2.2.2.2.2.1)), (q6, .inl (G.2.2.1, 201, .inl v0.2.2.2.2.2.2.2.2.2.1)), (q7, .inl (G.2.2.1, 201, .inl v0.2.2.2.2.2.2.2.2.2.2.1)), (q8, .inl (G.2.2.1, 201, .inl v0.2.2.2.2.2.2.2.2.2.2.2.2.2.2.2.1))] 92 [(0, .ref q0), (1, .int y1), (2, .int y2), (3, .int y3)] [] := by
        intro y1 y2 y3 hf
        unfold zf_X8_needed_b92 at hf
        refine zg_iload_n X dX8_needed_92 rfl 1 rfl ?_
        refine zg_loc [0, 2, 3] rfl ?_
        exact hb93 y2 y3 y1 hf
      have hb64 : ∀ (y2 : Int32) (y3 : Int32) (z0 : Int32), zf_X8_needed_b64 fu v0 (zf_X8_needed_L13 fu v0 n13) y2 y3 z0 = some res → zgGd G Z ({ frames := 3, cells := 0, slots := 0, locals := 62 } : Room) 0 0 5 [(q0, .inr (7, [.ref q1, .ref q2, .int v0.2.2.1, .ref q3, .int v0.2.2.2.2.1, .int v0.2.2.2.2.2.1, .ref q4, .int v0.2.2.2.2.2.2.2.1, .ref q5, .ref q6, .ref q7, .int v0.2.2.2.2.2.2.2.2.2.2.2.1, .int v0.2.2.2.2.2.2.2.2.2.2.2.2.1, .int v0.2.2.2.2.2.2.2.2.2.2.2.2.2.1, .int v0.2.2.2.2.2.2.2.2.2.2.2.2.2.2.1, .ref q8, .int v0.2.2.2.2.2.2.2.2.2.2.2.2.2.2.2.2])), (q1, .inl (G.2.2.1, 946, .inl v0.1)), (q2, .inl (G.2.2.1, 5676, .inl v0.2.1)), (q3, .inl (G.2.2.1, 60, .inl v0.2.2.2.1)), (q4, .inl (G.2.2.1, 201, .inl v0.2.2.2.2.2.2.1)), (q5, .inl (G.2.2.1, 201, .inl v0.2.2.2.2.2.2.2.2.1)), (q6, .inl (G.2.2.1, 201, .inl v0.2.2.2.2.2.2.2.2.2.1)), (q7, .inl (G.2.2.1, 201, .inl v0.2.2.2.2.2.2.2.2.2.2.1)), (q8, .inl (G.2.2.1, 201, .inl v0.2.2.2.2.2.2.2.2.2.2.2.2.2.2.2.1))] 64 [(0, .ref q0), (2, .int y2), (3, .int y3)] [.int z0] := by
        intro y2 y3 z0 hf
        unfold zf_X8_needed_b64 at hf
        refine zg_istore_n (L' := [(1, .int z0), (0, .ref q0), (2, .int y2), (3, .int y3)]) X dX8_needed_64 rfl (by decide) rfl ?_
        refine zg_aload_n X dX8_needed_65 rfl 1 rfl ?_
        refine zg_get (C := RX8) (T := TX8) (N := 17) X 0 3 hiX8 rfl rfl (by decide) hw2 rfl dX8_needed_66 ?_
        refine zg_iload_n X dX8_needed_69 rfl 3 rfl ?_
        obtain ⟨hin, hf⟩ := pl_in hf
        refine zg_iald X 3 rfl hin dX8_needed_70 ?_
        obtain ⟨x9, ex9, hf⟩ := pl_l hf
        refine zg_topi ex9 ?_
        refine zg_bipush (v := 32) X dX8_needed_71 (by decide) ?_
        refine zg_icmp_ne (tgt := 92) X dX8_needed_73 (by decide) (fun c10 => ?_) (fun c10 => ?_)
        · have hf := pl_f c10 hf
          refine zg_loc [1, 0, 2, 3] rfl ?_
          exact hb92 z0 y2 y3 hf
        · have hf := pl_t c10 hf
          refine zg_aload_n X dX8_needed_76 rfl 1 rfl ?_
          refine zg_get (C := RX8) (T := TX8) (N := 17) X 0 0 hiX8 rfl rfl (by decide) hw0 rfl dX8_needed_77 ?_
          refine zg_sipush (v := 604) X dX8_needed_80 (by decide) ?_
          refine zg_iald X 1 rfl (by unfold vp_in; decide) dX8_needed_83 ?_
          obtain ⟨x11, ex11, hf⟩ := pl_l hf
          refine zg_topi ex11 ?_
          refine zg_iconst (v := 1) X dX8_needed_84 (by decide) ?_
          refine zg_icmp_ne (tgt := 92) X dX8_needed_85 (by decide) (fun c12 => ?_) (fun c12 => ?_)
          · have hf := pl_f c12 hf
            refine zg_loc [1, 0, 2, 3] rfl ?_
            exact hb92 z0 y2 y3 hf
          · have hf := pl_t c12 hf
            refine zg_iconst (v := 0) X dX8_needed_88 (by decide) ?_
            refine zg_goto (tgt := 93) X dX8_needed_89 (by decide) ?_
            refine zg_loc [1, 2, 3] rfl ?_
            exact hb93 y2 y3 0 hf
      have hb50 : ∀ (y1 : Int32) (y3 : Int32) (y4 : Int32) (z0 : Int32) (z1 : Int32), zf_X8_needed_b50 fu v0 (zf_X8_needed_L13 fu v0 n13) y1 y3 y4 z0 z1 = some res → zgGd G Z ({ frames := 3, cells := 0, slots := 0, locals := 62 } : Room) 0 0 5 [(q0, .inr (7, [.ref q1, .ref q2, .int v0.2.2.1, .ref q3, .int v0.2.2.2.2.1, .int v0.2.2.2.2.2.1, .ref q4, .int v0.2.2.2.2.2.2.2.1, .ref q5, .ref q6, .ref q7, .int v0.2.2.2.2.2.2.2.2.2.2.2.1, .int v0.2.2.2.2.2.2.2.2.2.2.2.2.1, .int v0.2.2.2.2.2.2.2.2.2.2.2.2.2.1, .int v0.2.2.2.2.2.2.2.2.2.2.2.2.2.2.1, .ref q8, .int v0.2.2.2.2.2.2.2.2.2.2.2.2.2.2.2.2])), (q1, .inl (G.2.2.1, 946, .inl v0.1)), (q2, .inl (G.2.2.1, 5676, .inl v0.2.1)), (q3, .inl (G.2.2.1, 60, .inl v0.2.2.2.1)), (q4, .inl (G.2.2.1, 201, .inl v0.2.2.2.2.2.2.1)), (q5, .inl (G.2.2.1, 201, .inl v0.2.2.2.2.2.2.2.2.1)), (q6, .inl (G.2.2.1, 201, .inl v0.2.2.2.2.2.2.2.2.2.1)), (q7, .inl (G.2.2.1, 201, .inl v0.2.2.2.2.2.2.2.2.2.2.1)), (q8, .inl (G.2.2.1, 201, .inl v0.2.2.2.2.2.2.2.2.2.2.2.2.2.2.2.1))] 50 [(0, .ref q0), (1, .int y1), (3, .int y3), (4, .int y4)] [.int z1, .int z0] := by
        intro y1 y3 y4 z0 z1 hf
        unfold zf_X8_needed_b50 at hf
        refine zg_iadd X dX8_needed_50 ?_
        obtain ⟨x7, ex7, hf⟩ := pl_l hf
        refine zg_topi ex7 ?_
        refine zg_istore_n (L' := [(2, .int x7), (0, .ref q0), (1, .int y1), (3, .int y3), (4, .int y4)]) X dX8_needed_51 rfl (by decide) rfl ?_
        refine zg_iload X dX8_needed_52 4 rfl ?_
        refine zg_iconst (v := (-1)) X dX8_needed_54 (by decide) ?_
        refine zg_icmp_ne (tgt := 62) X dX8_needed_55 (by decide) (fun c8 => ?_) (fun c8 => ?_)
        · have hf := pl_f c8 hf
          refine zg_iload X dX8_needed_62 4 rfl ?_
          refine zg_loc [1, 0, 3] rfl ?_
          exact hb64 x7 y3 y4 hf
        · have hf := pl_t c8 hf
          refine zg_iload_n X dX8_needed_58 rfl 2 rfl ?_
          refine zg_goto (tgt := 64) X dX8_needed_59 (by decide) ?_
          refine zg_loc [1, 0, 3] rfl ?_
          exact hb64 x7 y3 y1 hf
      have hb49 : ∀ (y1 : Int32) (y3 : Int32) (y4 : Int32) (z0 : Int32), zf_X8_needed_b49 fu v0 (zf_X8_needed_L13 fu v0 n13) y1 y3 y4 z0 = some res → zgGd G Z ({ frames := 3, cells := 0, slots := 0, locals := 62 } : Room) 0 0 5 [(q0, .inr (7, [.ref q1, .ref q2, .int v0.2.2.1, .ref q3, .int v0.2.2.2.2.1, .int v0.2.2.2.2.2.1, .ref q4, .int v0.2.2.2.2.2.2.2.1, .ref q5, .ref q6, .ref q7, .int v0.2.2.2.2.2.2.2.2.2.2.2.1, .int v0.2.2.2.2.2.2.2.2.2.2.2.2.1, .int v0.2.2.2.2.2.2.2.2.2.2.2.2.2.1, .int v0.2.2.2.2.2.2.2.2.2.2.2.2.2.2.1, .ref q8, .int v0.2.2.2.2.2.2.2.2.2.2.2.2.2.2.2.2])), (q1, .inl (G.2.2.1, 946, .inl v0.1)), (q2, .inl (G.2.2.1, 5676, .inl v0.2.1)), (q3, .inl (G.2.2.1, 60, .inl v0.2.2.2.1)), (q4, .inl (G.2.2.1, 201, .inl v0.2.2.2.2.2.2.1)), (q5, .inl (G.2.2.1, 201, .inl v0.2.2.2.2.2.2.2.2.1)), (q6, .inl (G.2.2.1, 201, .inl v0.2.2.2.2.2.2.2.2.2.1)), (q7, .inl (G.2.2.1, 201, .inl v0.2.2.2.2.2.2.2.2.2.2.1)), (q8, .inl (G.2.2.1, 201, .inl v0.2.2.2.2.2.2.2.2.2.2.2.2.2.2.2.1))] 49 [(0, .ref q0), (1, .int y1), (3, .int y3), (4, .int y4)] [.int z0] := by
        intro y1 y3 y4 z0 hf
        unfold zf_X8_needed_b49 at hf
        refine zg_iconst (v := 1) X dX8_needed_49 (by decide) ?_
        exact hb50 y1 y3 y4 z0 1 hf
      intro y1 y2 y3 hf
      rw [zf_X8_needed_L13] at hf
      refine zg_iload_n X dX8_needed_13 rfl 3 rfl ?_
      refine zg_aload_n X dX8_needed_14 rfl 0 rfl ?_
      refine zg_get (C := RX8) (T := TX8) (N := 17) X 0 4 hiX8 rfl rfl (by decide) hw1 rfl dX8_needed_15 ?_
      refine zg_icmp_ge (tgt := 100) X dX8_needed_18 (by decide) (fun c2 => ?_) (fun c2 => ?_)
      · have hf := pl_t c2 hf
        refine zg_iload_n X dX8_needed_100 rfl 2 rfl ?_
        have hf := Option.some.inj hf
        subst hf
        exact zg_iret X hF rfl rfl () rfl rfl (Nat.le_of_ble_eq_true rfl) (Nat.le_of_ble_eq_true rfl) dX8_needed_101
      · have hf := pl_f c2 hf
        refine zg_aload_n X dX8_needed_21 rfl 0 rfl ?_
        refine zg_get (C := RX8) (T := TX8) (N := 17) X 0 3 hiX8 rfl rfl (by decide) hw2 rfl dX8_needed_22 ?_
        refine zg_iload_n X dX8_needed_25 rfl 3 rfl ?_
        obtain ⟨hin, hf⟩ := pl_in hf
        refine zg_iald X 3 rfl hin dX8_needed_26 ?_
        obtain ⟨x3, ex3, hf⟩ := pl_l hf
        refine zg_topi ex3 ?_
        obtain ⟨b4, hb4, hf⟩ := pl_b hf
        refine zg_cP1 X (zg_runS X (zc_X8_shiftOf G x3 fu b4 hb4) gX8_needed_X8_shiftOf rfl zh_X8_shiftOf.2 ⟨rfl, rfl⟩ ⟨Nat.le_of_ble_eq_true rfl, Nat.le_of_ble_eq_true rfl⟩ rfl (Nat.le_of_ble_eq_true rfl) ⟨Nat.le_of_ble_eq_true rfl, Nat.le_of_ble_eq_true rfl⟩ [] (by decide) rfl rfl dX8_needed_27) rfl ?_
        refine zg_istore (L' := [(4, .int b4), (0, .ref q0), (1, .int y1), (2, .int y2), (3, .int y3)]) X dX8_needed_30 (by decide) rfl ?_
        refine zg_iload_n X dX8_needed_32 rfl 3 rfl ?_
        refine zg_iload X dX8_needed_33 0 rfl ?_
        refine zg_iconst (v := (-1)) X dX8_needed_35 (by decide) ?_
        refine zg_icmp_eq (tgt := 49) X dX8_needed_36 (by decide) (fun c5 => ?_) (fun c5 => ?_)
        · have hf := pl_t c5 hf
          refine zg_loc [1, 2, 4, 0] rfl ?_
          exact hb49 y1 y3 b4 y2 hf
        · have hf := pl_f c5 hf
          refine zg_iload X dX8_needed_39 0 rfl ?_
          refine zg_iload_n X dX8_needed_41 rfl 2 rfl ?_
          refine zg_icmp_eq (tgt := 49) X dX8_needed_42 (by decide) (fun c6 => ?_) (fun c6 => ?_)
          · have hf := pl_t c6 hf
            refine zg_loc [1, 2, 4, 0] rfl ?_
            exact hb49 y1 y3 b4 y2 hf
          · have hf := pl_f c6 hf
            refine zg_iconst (v := 2) X dX8_needed_45 (by decide) ?_
            refine zg_goto (tgt := 50) X dX8_needed_46 (by decide) ?_
            refine zg_loc [1, 2, 4, 0] rfl ?_
            exact hb50 y1 y3 b4 y2 2 hf
  unfold zf_X8_needed at hf
  refine zg_aload_n X dX8_needed_0 rfl 0 rfl ?_
  refine zg_get (C := RX8) (T := TX8) (N := 17) X 0 0 hiX8 rfl rfl (by decide) hw0 rfl dX8_needed_1 ?_
  refine zg_sipush (v := 603) X dX8_needed_4 (by decide) ?_
  refine zg_iald X 1 rfl (by unfold vp_in; decide) dX8_needed_7 ?_
  obtain ⟨x1, ex1, hf⟩ := pl_l hf
  refine zg_topi ex1 ?_
  refine zg_istore_n (L' := [(1, .int x1), (0, .ref q0)]) X dX8_needed_8 rfl (by decide) rfl ?_
  refine zg_iconst (v := 0) X dX8_needed_9 (by decide) ?_
  refine zg_istore_n (L' := [(2, .int 0), (1, .int x1), (0, .ref q0)]) X dX8_needed_10 rfl (by decide) rfl ?_
  refine zg_iconst (v := 0) X dX8_needed_11 (by decide) ?_
  refine zg_istore_n (L' := [(3, .int 0), (2, .int 0), (1, .int x1), (0, .ref q0)]) X dX8_needed_12 rfl (by decide) rfl ?_
  refine zg_loc [3, 2, 1, 0] rfl ?_
  exact hL13 fu x1 0 0 hf
theorem zh_X8_codesToSend : yX8_codesToSend.cls = RX8 ∧ yX8_codesToSend.cls ≠ "java/lang/invoke/MethodHandle" ∧ yX8_codesToSend.cls ≠ "java/lang/invoke/VarHandle" ∧ (parseMethodDescriptor yX8_codesToSend.desc).map (fun d => d.parameters.length) = some 0 := by decide +kernel
set_option maxHeartbeats 8000000 in
set_option maxRecDepth 100000 in
theorem zc_X8_codesToSend (G : zgG) (q0 q1 q2 q3 q4 q5 q6 q7 q8 : Nat) (v0 : zModel) (fu : Nat) (res : (Int32 × zModel)) (hf : zf_X8_codesToSend fu v0 = some res) : zgCt G yX8_codesToSend wsX8_codesToSend ({ frames := 4, cells := 0, slots := 0, locals := 86 } : Room) [.ref q0] [(q0, .inr (7, [.ref q1, .ref q2, .int v0.2.2.1, .ref q3, .int v0.2.2.2.2.1, .int v0.2.2.2.2.2.1, .ref q4, .int v0.2.2.2.2.2.2.2.1, .ref q5, .ref q6, .ref q7, .int v0.2.2.2.2.2.2.2.2.2.2.2.1, .int v0.2.2.2.2.2.2.2.2.2.2.2.2.1, .int v0.2.2.2.2.2.2.2.2.2.2.2.2.2.1, .int v0.2.2.2.2.2.2.2.2.2.2.2.2.2.2.1, .ref q8, .int v0.2.2.2.2.2.2.2.2.2.2.2.2.2.2.2.2])), (q1, .inl (G.2.2.1, 946, .inl v0.1)), (q2, .inl (G.2.2.1, 5676, .inl v0.2.1)), (q3, .inl (G.2.2.1, 60, .inl v0.2.2.2.1)), (q4, .inl (G.2.2.1, 201, .inl v0.2.2.2.2.2.2.1)), (q5, .inl (G.2.2.1, 201, .inl v0.2.2.2.2.2.2.2.2.1)), (q6, .inl (G.2.2.1, 201, .inl v0.2.2.2.2.2.2.2.2.2.1)), (q7, .inl (G.2.2.1, 201, .inl v0.2.2.2.2.2.2.2.2.2.2.1)), (q8, .inl (G.2.2.1, 201, .inl v0.2.2.2.2.2.2.2.2.2.2.2.2.2.2.2.1))] (fun _ : Unit => some (.int res.1)) (fun _ => [(q0, .inr (7, [.ref q1, .ref q2, .int res.2.2.2.1, .ref q3, .int res.2.2.2.2.2.1, .int res.2.2.2.2.2.2.1, .ref q4, .int res.2.2.2.2.2.2.2.2.1, .ref q5, .ref q6, .ref q7, .int res.2.2.2.2.2.2.2.2.2.2.2.2.1, .int res.2.2.2.2.2.2.2.2.2.2.2.2.2.1, .int res.2.2.2.2.2.2.2.2.2.2.2.2.2.2.1, .int res.2.2.2.2.2.2.2.2.2.2.2.2.2.2.2.1, .ref q8, .int res.2.2.2.2.2.2.2.2.2.2.2.2.2.2.2.2.2])), (q1, .inl (G.2.2.1, 946, .inl res.2.1)), (q2, .inl (G.2.2.1, 5676, .inl res.2.2.1)), (q3, .inl (G.2.2.1, 60, .inl res.2.2.2.2.1)), (q4, .inl (G.2.2.1, 201, .inl res.2.2.2.2.2.2.2.1)), (q5, .inl (G.2.2.1, 201, .inl res.2.2.2.2.2.2.2.2.2.1)), (q6, .inl (G.2.2.1, 201, .inl res.2.2.2.2.2.2.2.2.2.2.1)), (q7, .inl (G.2.2.1, 201, .inl res.2.2.2.2.2.2.2.2.2.2.2.1)), (q8, .inl (G.2.2.1, 201, .inl res.2.2.2.2.2.2.2.2.2.2.2.2.2.2.2.2.1))]) 0 0 := by
  have hw0 : Cond.fieldLink RX8 38 "TelexReceiverModel" "thrown" "I" ∈ wsX8_codesToSend := by decide +kernel
  have hiX8 : ∀ w ∈ u_ws RX8 TX8 17, w ∈ wsX8_codesToSend := by decide +kernel
  refine zg_of (own := RX8) (cc := cX8_codesToSend) (nL := 1) (ret := (some .int)) (by decide +kernel) rfl rfl (Nat.le_of_ble_eq_true rfl) (fun Z X hF => ?_)
  show zgGd G Z _ 0 0 1 _ 0 [(0, .ref q0)] []
  unfold zf_X8_codesToSend at hf
  refine zg_aload_n X dX8_codesToSend_0 rfl 0 rfl ?_
  refine zg_iconst (v := 0) X dX8_codesToSend_1 (by decide) ?_
  refine zg_put (C := RX8) (T := TX8) (N := 17) (ty := .int) (ws' := [(q0, .inr (7, [.ref q1, .ref q2, .int v0.2.2.1, .ref q3, .int v0.2.2.2.2.1, .int 0, .ref q4, .int v0.2.2.2.2.2.2.2.1, .ref q5, .ref q6, .ref q7, .int v0.2.2.2.2.2.2.2.2.2.2.2.1, .int v0.2.2.2.2.2.2.2.2.2.2.2.2.1, .int v0.2.2.2.2.2.2.2.2.2.2.2.2.2.1, .int v0.2.2.2.2.2.2.2.2.2.2.2.2.2.2.1, .ref q8, .int v0.2.2.2.2.2.2.2.2.2.2.2.2.2.2.2.2])), (q1, .inl (G.2.2.1, 946, .inl v0.1)), (q2, .inl (G.2.2.1, 5676, .inl v0.2.1)), (q3, .inl (G.2.2.1, 60, .inl v0.2.2.2.1)), (q4, .inl (G.2.2.1, 201, .inl v0.2.2.2.2.2.2.1)), (q5, .inl (G.2.2.1, 201, .inl v0.2.2.2.2.2.2.2.2.1)), (q6, .inl (G.2.2.1, 201, .inl v0.2.2.2.2.2.2.2.2.2.1)), (q7, .inl (G.2.2.1, 201, .inl v0.2.2.2.2.2.2.2.2.2.2.1)), (q8, .inl (G.2.2.1, 201, .inl v0.2.2.2.2.2.2.2.2.2.2.2.2.2.2.2.1))]) X 0 5 hiX8 tyX8 tyX8_ok nmX8 rfl rfl (by decide) hw0 rfl (by decide +kernel) rfl rfl (Nat.le_of_ble_eq_true rfl) rfl dX8_codesToSend_2 ?_
  refine zg_aload_n X dX8_codesToSend_5 rfl 0 rfl ?_
  obtain ⟨b1, hb1, hf⟩ := pl_b hf
  refine zg_cP1 X (zg_runV X (zc_X8_needed G q0 q1 q2 q3 q4 q5 q6 q7 q8 (v0.1, v0.2.1, v0.2.2.1, v0.2.2.2.1, v0.2.2.2.2.1, 0, v0.2.2.2.2.2.2.1, v0.2.2.2.2.2.2.2.1, v0.2.2.2.2.2.2.2.2.1, v0.2.2.2.2.2.2.2.2.2.1, v0.2.2.2.2.2.2.2.2.2.2.1, v0.2.2.2.2.2.2.2.2.2.2.2.1, v0.2.2.2.2.2.2.2.2.2.2.2.2.1, v0.2.2.2.2.2.2.2.2.2.2.2.2.2.1, v0.2.2.2.2.2.2.2.2.2.2.2.2.2.2.1, v0.2.2.2.2.2.2.2.2.2.2.2.2.2.2.2.1, v0.2.2.2.2.2.2.2.2.2.2.2.2.2.2.2.2) fu b1 hb1) gX8_codesToSend_X8_needed rfl zh_X8_needed ⟨rfl, rfl⟩ ⟨Nat.le_of_ble_eq_true rfl, Nat.le_of_ble_eq_true rfl⟩ rfl rfl rfl (Nat.le_of_ble_eq_true rfl) ⟨Nat.le_of_ble_eq_true rfl, Nat.le_of_ble_eq_true rfl⟩ [0, 1, 2, 3, 4, 5, 6, 7, 8] (by decide) rfl rfl dX8_codesToSend_6) rfl ?_
  have hf := Option.some.inj hf
  subst hf
  exact zg_iret X hF rfl rfl () rfl rfl (Nat.le_of_ble_eq_true rfl) (Nat.le_of_ble_eq_true rfl) dX8_codesToSend_9
theorem zh_X8_sends : yX8_sends.cls = RX8 ∧ yX8_sends.cls ≠ "java/lang/invoke/MethodHandle" ∧ yX8_sends.cls ≠ "java/lang/invoke/VarHandle" ∧ (parseMethodDescriptor yX8_sends.desc).map (fun d => d.parameters.length) = some 1 := by decide +kernel
set_option maxHeartbeats 8000000 in
set_option maxRecDepth 100000 in
theorem zc_X8_sends (G : zgG) (q0 q1 q2 q3 q4 q5 q6 q7 q8 : Nat) (v0 : zModel) (a1 : Int32) (fu : Nat) (res : zModel) (hf : zf_X8_sends fu v0 a1 = some res) : zgCt G yX8_sends wsX8_sends ({ frames := 0, cells := 0, slots := 0, locals := 0 } : Room) [.ref q0, .int a1] [(q0, .inr (7, [.ref q1, .ref q2, .int v0.2.2.1, .ref q3, .int v0.2.2.2.2.1, .int v0.2.2.2.2.2.1, .ref q4, .int v0.2.2.2.2.2.2.2.1, .ref q5, .ref q6, .ref q7, .int v0.2.2.2.2.2.2.2.2.2.2.2.1, .int v0.2.2.2.2.2.2.2.2.2.2.2.2.1, .int v0.2.2.2.2.2.2.2.2.2.2.2.2.2.1, .int v0.2.2.2.2.2.2.2.2.2.2.2.2.2.2.1, .ref q8, .int v0.2.2.2.2.2.2.2.2.2.2.2.2.2.2.2.2])), (q1, .inl (G.2.2.1, 946, .inl v0.1)), (q2, .inl (G.2.2.1, 5676, .inl v0.2.1)), (q3, .inl (G.2.2.1, 60, .inl v0.2.2.2.1)), (q4, .inl (G.2.2.1, 201, .inl v0.2.2.2.2.2.2.1)), (q5, .inl (G.2.2.1, 201, .inl v0.2.2.2.2.2.2.2.2.1)), (q6, .inl (G.2.2.1, 201, .inl v0.2.2.2.2.2.2.2.2.2.1)), (q7, .inl (G.2.2.1, 201, .inl v0.2.2.2.2.2.2.2.2.2.2.1)), (q8, .inl (G.2.2.1, 201, .inl v0.2.2.2.2.2.2.2.2.2.2.2.2.2.2.2.1))] (fun _ : Unit => none) (fun _ => [(q0, .inr (7, [.ref q1, .ref q2, .int res.2.2.1, .ref q3, .int res.2.2.2.2.1, .int res.2.2.2.2.2.1, .ref q4, .int res.2.2.2.2.2.2.2.1, .ref q5, .ref q6, .ref q7, .int res.2.2.2.2.2.2.2.2.2.2.2.1, .int res.2.2.2.2.2.2.2.2.2.2.2.2.1, .int res.2.2.2.2.2.2.2.2.2.2.2.2.2.1, .int res.2.2.2.2.2.2.2.2.2.2.2.2.2.2.1, .ref q8, .int res.2.2.2.2.2.2.2.2.2.2.2.2.2.2.2.2])), (q1, .inl (G.2.2.1, 946, .inl res.1)), (q2, .inl (G.2.2.1, 5676, .inl res.2.1)), (q3, .inl (G.2.2.1, 60, .inl res.2.2.2.1)), (q4, .inl (G.2.2.1, 201, .inl res.2.2.2.2.2.2.1)), (q5, .inl (G.2.2.1, 201, .inl res.2.2.2.2.2.2.2.2.1)), (q6, .inl (G.2.2.1, 201, .inl res.2.2.2.2.2.2.2.2.2.1)), (q7, .inl (G.2.2.1, 201, .inl res.2.2.2.2.2.2.2.2.2.2.1)), (q8, .inl (G.2.2.1, 201, .inl res.2.2.2.2.2.2.2.2.2.2.2.2.2.2.2.1))]) 0 0 := by
  have hw0 : Cond.fieldLink RX8 7 "TelexReceiverModel" "s" "[I" ∈ wsX8_sends := by decide +kernel
  have hiX8 : ∀ w ∈ u_ws RX8 TX8 17, w ∈ wsX8_sends := by decide +kernel
  refine zg_of (own := RX8) (cc := cX8_sends) (nL := 3) (ret := none) (by decide +kernel) rfl rfl (Nat.le_of_ble_eq_true rfl) (fun Z X hF => ?_)
  show zgGd G Z _ 0 0 3 _ 0 [(0, .ref q0), (1, .int a1)] []
  have hb77 : ∀ (z1 : Int32) (z2 : Int32) (w0 : (Nat → Int32)), zf_X8_sends_b77 fu v0 z1 z2 w0 = some res → zgGd G Z ({ frames := 0, cells := 0, slots := 0, locals := 0 } : Room) 0 0 3 [(q0, .inr (7, [.ref q1, .ref q2, .int v0.2.2.1, .ref q3, .int v0.2.2.2.2.1, .int v0.2.2.2.2.2.1, .ref q4, .int v0.2.2.2.2.2.2.2.1, .ref q5, .ref q6, .ref q7, .int v0.2.2.2.2.2.2.2.2.2.2.2.1, .int v0.2.2.2.2.2.2.2.2.2.2.2.2.1, .int v0.2.2.2.2.2.2.2.2.2.2.2.2.2.1, .int v0.2.2.2.2.2.2.2.2.2.2.2.2.2.2.1, .ref q8, .int v0.2.2.2.2.2.2.2.2.2.2.2.2.2.2.2.2])), (q1, .inl (G.2.2.1, 946, .inl w0)), (q2, .inl (G.2.2.1, 5676, .inl v0.2.1)), (q3, .inl (G.2.2.1, 60, .inl v0.2.2.2.1)), (q4, .inl (G.2.2.1, 201, .inl v0.2.2.2.2.2.2.1)), (q5, .inl (G.2.2.1, 201, .inl v0.2.2.2.2.2.2.2.2.1)), (q6, .inl (G.2.2.1, 201, .inl v0.2.2.2.2.2.2.2.2.2.1)), (q7, .inl (G.2.2.1, 201, .inl v0.2.2.2.2.2.2.2.2.2.2.1)), (q8, .inl (G.2.2.1, 201, .inl v0.2.2.2.2.2.2.2.2.2.2.2.2.2.2.2.1))] 77 [(0, .ref q0)] [.int z2, .int z1, .ref q1] := by
    intro z1 z2 w0 hf
    unfold zf_X8_sends_b77 at hf
    obtain ⟨hin, hf⟩ := pl_in hf
    obtain ⟨f13, ef13, hf⟩ := pl_l hf
    refine zg_iast (ws' := [(q0, .inr (7, [.ref q1, .ref q2, .int v0.2.2.1, .ref q3, .int v0.2.2.2.2.1, .int v0.2.2.2.2.2.1, .ref q4, .int v0.2.2.2.2.2.2.2.1, .ref q5, .ref q6, .ref q7, .int v0.2.2.2.2.2.2.2.2.2.2.2.1, .int v0.2.2.2.2.2.2.2.2.2.2.2.2.1, .int v0.2.2.2.2.2.2.2.2.2.2.2.2.2.1, .int v0.2.2.2.2.2.2.2.2.2.2.2.2.2.2.1, .ref q8, .int v0.2.2.2.2.2.2.2.2.2.2.2.2.2.2.2.2])), (q1, .inl (G.2.2.1, 946, .inl f13)), (q2, .inl (G.2.2.1, 5676, .inl v0.2.1)), (q3, .inl (G.2.2.1, 60, .inl v0.2.2.2.1)), (q4, .inl (G.2.2.1, 201, .inl v0.2.2.2.2.2.2.1)), (q5, .inl (G.2.2.1, 201, .inl v0.2.2.2.2.2.2.2.2.1)), (q6, .inl (G.2.2.1, 201, .inl v0.2.2.2.2.2.2.2.2.2.1)), (q7, .inl (G.2.2.1, 201, .inl v0.2.2.2.2.2.2.2.2.2.2.1)), (q8, .inl (G.2.2.1, 201, .inl v0.2.2.2.2.2.2.2.2.2.2.2.2.2.2.2.1))]) X 1 rfl hin (by subst ef13; rfl) dX8_sends_77 ?_
    refine zg_aload_n X dX8_sends_78 rfl 0 rfl ?_
    refine zg_get (C := RX8) (T := TX8) (N := 17) X 0 0 hiX8 rfl rfl (by decide) hw0 rfl dX8_sends_79 ?_
    refine zg_sipush (v := 201) X dX8_sends_82 (by decide) ?_
    refine zg_dup2 X dX8_sends_85 rfl rfl ?_
    refine zg_iald X 1 rfl (by unfold vp_in; decide) dX8_sends_86 ?_
    obtain ⟨x14, ex14, hf⟩ := pl_l hf
    refine zg_topi ex14 ?_
    refine zg_iconst (v := 1) X dX8_sends_87 (by decide) ?_
    refine zg_iadd X dX8_sends_88 ?_
    obtain ⟨x15, ex15, hf⟩ := pl_l hf
    refine zg_topi ex15 ?_
    obtain ⟨f16, ef16, hf⟩ := pl_l hf
    refine zg_iast (ws' := [(q0, .inr (7, [.ref q1, .ref q2, .int v0.2.2.1, .ref q3, .int v0.2.2.2.2.1, .int v0.2.2.2.2.2.1, .ref q4, .int v0.2.2.2.2.2.2.2.1, .ref q5, .ref q6, .ref q7, .int v0.2.2.2.2.2.2.2.2.2.2.2.1, .int v0.2.2.2.2.2.2.2.2.2.2.2.2.1, .int v0.2.2.2.2.2.2.2.2.2.2.2.2.2.1, .int v0.2.2.2.2.2.2.2.2.2.2.2.2.2.2.1, .ref q8, .int v0.2.2.2.2.2.2.2.2.2.2.2.2.2.2.2.2])), (q1, .inl (G.2.2.1, 946, .inl f16)), (q2, .inl (G.2.2.1, 5676, .inl v0.2.1)), (q3, .inl (G.2.2.1, 60, .inl v0.2.2.2.1)), (q4, .inl (G.2.2.1, 201, .inl v0.2.2.2.2.2.2.1)), (q5, .inl (G.2.2.1, 201, .inl v0.2.2.2.2.2.2.2.2.1)), (q6, .inl (G.2.2.1, 201, .inl v0.2.2.2.2.2.2.2.2.2.1)), (q7, .inl (G.2.2.1, 201, .inl v0.2.2.2.2.2.2.2.2.2.2.1)), (q8, .inl (G.2.2.1, 201, .inl v0.2.2.2.2.2.2.2.2.2.2.2.2.2.2.2.1))]) X 1 rfl (by unfold vp_in; decide) (by subst ef16; rfl) dX8_sends_89 ?_
    have hf := Option.some.inj hf
    subst hf
    exact zg_vret X hF () rfl rfl (Nat.le_of_ble_eq_true rfl) (Nat.le_of_ble_eq_true rfl) dX8_sends_90
  unfold zf_X8_sends at hf
  refine zg_aload_n X dX8_sends_0 rfl 0 rfl ?_
  refine zg_get (C := RX8) (T := TX8) (N := 17) X 0 0 hiX8 rfl rfl (by decide) hw0 rfl dX8_sends_1 ?_
  refine zg_sipush (v := 605) X dX8_sends_4 (by decide) ?_
  refine zg_aload_n X dX8_sends_7 rfl 0 rfl ?_
  refine zg_get (C := RX8) (T := TX8) (N := 17) X 0 0 hiX8 rfl rfl (by decide) hw0 rfl dX8_sends_8 ?_
  refine zg_iconst (v := 0) X dX8_sends_11 (by decide) ?_
  refine zg_iald X 1 rfl (by unfold vp_in; decide) dX8_sends_12 ?_
  obtain ⟨x1, ex1, hf⟩ := pl_l hf
  refine zg_topi ex1 ?_
  refine zg_iadd X dX8_sends_13 ?_
  obtain ⟨x2, ex2, hf⟩ := pl_l hf
  refine zg_topi ex2 ?_
  obtain ⟨hin, hf⟩ := pl_in hf
  refine zg_iald X 1 rfl hin dX8_sends_14 ?_
  obtain ⟨x3, ex3, hf⟩ := pl_l hf
  refine zg_topi ex3 ?_
  refine zg_iconst (v := 1) X dX8_sends_15 (by decide) ?_
  refine zg_isub X dX8_sends_16 ?_
  obtain ⟨x4, ex4, hf⟩ := pl_l hf
  refine zg_topi ex4 ?_
  refine zg_istore_n (L' := [(2, .int x4), (0, .ref q0), (1, .int a1)]) X dX8_sends_17 rfl (by decide) rfl ?_
  refine zg_aload_n X dX8_sends_18 rfl 1 rfl ?_
  refine zg_get (C := RX8) (T := TX8) (N := 17) X 0 0 hiX8 rfl rfl (by decide) hw0 rfl dX8_sends_19 ?_
  refine zg_iconst (v := 1) X dX8_sends_22 (by decide) ?_
  refine zg_aload_n X dX8_sends_23 rfl 1 rfl ?_
  refine zg_get (C := RX8) (T := TX8) (N := 17) X 0 0 hiX8 rfl rfl (by decide) hw0 rfl dX8_sends_24 ?_
  refine zg_iconst (v := 0) X dX8_sends_27 (by decide) ?_
  refine zg_iald X 1 rfl (by unfold vp_in; decide) dX8_sends_28 ?_
  obtain ⟨x5, ex5, hf⟩ := pl_l hf
  refine zg_topi ex5 ?_
  refine zg_iadd X dX8_sends_29 ?_
  refine zg_iload_n X dX8_sends_30 rfl 2 rfl ?_
  obtain ⟨hin, hf⟩ := pl_in hf
  obtain ⟨f6, ef6, hf⟩ := pl_l hf
  refine zg_iast (ws' := [(q0, .inr (7, [.ref q1, .ref q2, .int v0.2.2.1, .ref q3, .int v0.2.2.2.2.1, .int v0.2.2.2.2.2.1, .ref q4, .int v0.2.2.2.2.2.2.2.1, .ref q5, .ref q6, .ref q7, .int v0.2.2.2.2.2.2.2.2.2.2.2.1, .int v0.2.2.2.2.2.2.2.2.2.2.2.2.1, .int v0.2.2.2.2.2.2.2.2.2.2.2.2.2.1, .int v0.2.2.2.2.2.2.2.2.2.2.2.2.2.2.1, .ref q8, .int v0.2.2.2.2.2.2.2.2.2.2.2.2.2.2.2.2])), (q1, .inl (G.2.2.1, 946, .inl f6)), (q2, .inl (G.2.2.1, 5676, .inl v0.2.1)), (q3, .inl (G.2.2.1, 60, .inl v0.2.2.2.1)), (q4, .inl (G.2.2.1, 201, .inl v0.2.2.2.2.2.2.1)), (q5, .inl (G.2.2.1, 201, .inl v0.2.2.2.2.2.2.2.2.1)), (q6, .inl (G.2.2.1, 201, .inl v0.2.2.2.2.2.2.2.2.2.1)), (q7, .inl (G.2.2.1, 201, .inl v0.2.2.2.2.2.2.2.2.2.2.1)), (q8, .inl (G.2.2.1, 201, .inl v0.2.2.2.2.2.2.2.2.2.2.2.2.2.2.2.1))]) X 1 rfl hin (by subst ef6; rfl) dX8_sends_31 ?_
  refine zg_aload_n X dX8_sends_32 rfl 1 rfl ?_
  refine zg_pc 33 rfl ?_
  refine zg_get (C := RX8) (T := TX8) (N := 17) X 0 0 hiX8 rfl rfl (by decide) hw0 rfl dX8_sends_33 ?_
  refine zg_iconst (v := 0) X dX8_sends_36 (by decide) ?_
  refine zg_dup2 X dX8_sends_37 rfl rfl ?_
  refine zg_iald X 1 rfl (by unfold vp_in; decide) dX8_sends_38 ?_
  obtain ⟨x7, ex7, hf⟩ := pl_l hf
  refine zg_topi ex7 ?_
  refine zg_iconst (v := 1) X dX8_sends_39 (by decide) ?_
  refine zg_iadd X dX8_sends_40 ?_
  obtain ⟨x8, ex8, hf⟩ := pl_l hf
  refine zg_topi ex8 ?_
  obtain ⟨f9, ef9, hf⟩ := pl_l hf
  refine zg_iast (ws' := [(q0, .inr (7, [.ref q1, .ref q2, .int v0.2.2.1, .ref q3, .int v0.2.2.2.2.1, .int v0.2.2.2.2.2.1, .ref q4, .int v0.2.2.2.2.2.2.2.1, .ref q5, .ref q6, .ref q7, .int v0.2.2.2.2.2.2.2.2.2.2.2.1, .int v0.2.2.2.2.2.2.2.2.2.2.2.2.1, .int v0.2.2.2.2.2.2.2.2.2.2.2.2.2.1, .int v0.2.2.2.2.2.2.2.2.2.2.2.2.2.2.1, .ref q8, .int v0.2.2.2.2.2.2.2.2.2.2.2.2.2.2.2.2])), (q1, .inl (G.2.2.1, 946, .inl f9)), (q2, .inl (G.2.2.1, 5676, .inl v0.2.1)), (q3, .inl (G.2.2.1, 60, .inl v0.2.2.2.1)), (q4, .inl (G.2.2.1, 201, .inl v0.2.2.2.2.2.2.1)), (q5, .inl (G.2.2.1, 201, .inl v0.2.2.2.2.2.2.2.2.1)), (q6, .inl (G.2.2.1, 201, .inl v0.2.2.2.2.2.2.2.2.2.1)), (q7, .inl (G.2.2.1, 201, .inl v0.2.2.2.2.2.2.2.2.2.2.1)), (q8, .inl (G.2.2.1, 201, .inl v0.2.2.2.2.2.2.2.2.2.2.2.2.2.2.2.1))]) X 1 rfl (by unfold vp_in; decide) (by subst ef9; rfl) dX8_sends_41 ?_
  refine zg_iload_n X dX8_sends_42 rfl 0 rfl ?_
  refine zg_if_eq (tgt := 90) X dX8_sends_43 (by decide) (fun c10 => ?_) (fun c10 => ?_)
  · have hf := pl_t c10 hf
    have hf := Option.some.inj hf
    subst hf
    exact zg_vret X hF () rfl rfl (Nat.le_of_ble_eq_true rfl) (Nat.le_of_ble_eq_true rfl) dX8_sends_90
  · have hf := pl_f c10 hf
    refine zg_aload_n X dX8_sends_46 rfl 1 rfl ?_
    refine zg_get (C := RX8) (T := TX8) (N := 17) X 0 0 hiX8 rfl rfl (by decide) hw0 rfl dX8_sends_47 ?_
    refine zg_sipush (v := 202) X dX8_sends_50 (by decide) ?_
    refine zg_aload_n X dX8_sends_53 rfl 1 rfl ?_
    refine zg_get (C := RX8) (T := TX8) (N := 17) X 0 0 hiX8 rfl rfl (by decide) hw0 rfl dX8_sends_54 ?_
    refine zg_sipush (v := 201) X dX8_sends_57 (by decide) ?_
    refine zg_iald X 1 rfl (by unfold vp_in; decide) dX8_sends_60 ?_
    obtain ⟨x11, ex11, hf⟩ := pl_l hf
    refine zg_topi ex11 ?_
    refine zg_iadd X dX8_sends_61 ?_
    refine zg_iload_n X dX8_sends_62 rfl 0 rfl ?_
    refine zg_if_ge (tgt := 70) X dX8_sends_63 (by decide) (fun c12 => ?_) (fun c12 => ?_)
    · have hf := pl_t c12 hf
      refine zg_iload_n X dX8_sends_70 rfl 2 rfl ?_
      refine zg_iconst (v := 1) X dX8_sends_71 (by decide) ?_
      refine zg_iload_n X dX8_sends_72 rfl 0 rfl ?_
      refine zg_iconst (v := 1) X dX8_sends_73 (by decide) ?_
      refine zg_isub X dX8_sends_74 ?_
      refine zg_ishl X dX8_sends_75 ?_
      refine zg_ixor X dX8_sends_76 ?_
      refine zg_loc [1] rfl ?_
      exact hb77 ((202 : Int32) + x11) (a1 ^^^ ((1 : Int32) <<< ((x4 - (1 : Int32)) &&& 31))) f9 hf
    · have hf := pl_f c12 hf
      refine zg_iload_n X dX8_sends_66 rfl 2 rfl ?_
      refine zg_goto (tgt := 77) X dX8_sends_67 (by decide) ?_
      refine zg_loc [1] rfl ?_
      exact hb77 ((202 : Int32) + x11) a1 f9 hf
theorem zh_X8_send : yX8_send.cls = RX8 ∧ yX8_send.cls ≠ "java/lang/invoke/MethodHandle" ∧ yX8_send.cls ≠ "java/lang/invoke/VarHandle" ∧ (parseMethodDescriptor yX8_send.desc).map (fun d => d.parameters.length) = some 0 := by decide +kernel
set_option maxHeartbeats 8000000 in
set_option maxRecDepth 100000 in
theorem zc_X8_send (G : zgG) (q0 q1 q2 q3 q4 q5 q6 q7 q8 : Nat) (v0 : zModel) (fu : Nat) (res : (Int32 × zModel)) (hf : zf_X8_send fu v0 = some res) : zgCt G yX8_send wsX8_send ({ frames := 4, cells := 0, slots := 0, locals := 86 } : Room) [.ref q0] [(q0, .inr (7, [.ref q1, .ref q2, .int v0.2.2.1, .ref q3, .int v0.2.2.2.2.1, .int v0.2.2.2.2.2.1, .ref q4, .int v0.2.2.2.2.2.2.2.1, .ref q5, .ref q6, .ref q7, .int v0.2.2.2.2.2.2.2.2.2.2.2.1, .int v0.2.2.2.2.2.2.2.2.2.2.2.2.1, .int v0.2.2.2.2.2.2.2.2.2.2.2.2.2.1, .int v0.2.2.2.2.2.2.2.2.2.2.2.2.2.2.1, .ref q8, .int v0.2.2.2.2.2.2.2.2.2.2.2.2.2.2.2.2])), (q1, .inl (G.2.2.1, 946, .inl v0.1)), (q2, .inl (G.2.2.1, 5676, .inl v0.2.1)), (q3, .inl (G.2.2.1, 60, .inl v0.2.2.2.1)), (q4, .inl (G.2.2.1, 201, .inl v0.2.2.2.2.2.2.1)), (q5, .inl (G.2.2.1, 201, .inl v0.2.2.2.2.2.2.2.2.1)), (q6, .inl (G.2.2.1, 201, .inl v0.2.2.2.2.2.2.2.2.2.1)), (q7, .inl (G.2.2.1, 201, .inl v0.2.2.2.2.2.2.2.2.2.2.1)), (q8, .inl (G.2.2.1, 201, .inl v0.2.2.2.2.2.2.2.2.2.2.2.2.2.2.2.1))] (fun _ : Unit => some (.int res.1)) (fun _ => [(q0, .inr (7, [.ref q1, .ref q2, .int res.2.2.2.1, .ref q3, .int res.2.2.2.2.2.1, .int res.2.2.2.2.2.2.1, .ref q4, .int res.2.2.2.2.2.2.2.2.1, .ref q5, .ref q6, .ref q7, .int res.2.2.2.2.2.2.2.2.2.2.2.2.1, .int res.2.2.2.2.2.2.2.2.2.2.2.2.2.1, .int res.2.2.2.2.2.2.2.2.2.2.2.2.2.2.1, .int res.2.2.2.2.2.2.2.2.2.2.2.2.2.2.2.1, .ref q8, .int res.2.2.2.2.2.2.2.2.2.2.2.2.2.2.2.2.2])), (q1, .inl (G.2.2.1, 946, .inl res.2.1)), (q2, .inl (G.2.2.1, 5676, .inl res.2.2.1)), (q3, .inl (G.2.2.1, 60, .inl res.2.2.2.2.1)), (q4, .inl (G.2.2.1, 201, .inl res.2.2.2.2.2.2.2.1)), (q5, .inl (G.2.2.1, 201, .inl res.2.2.2.2.2.2.2.2.2.1)), (q6, .inl (G.2.2.1, 201, .inl res.2.2.2.2.2.2.2.2.2.2.1)), (q7, .inl (G.2.2.1, 201, .inl res.2.2.2.2.2.2.2.2.2.2.2.1)), (q8, .inl (G.2.2.1, 201, .inl res.2.2.2.2.2.2.2.2.2.2.2.2.2.2.2.2.1))]) 0 0 := by
  have hw0 : Cond.fieldLink RX8 62 "TelexReceiverModel" "length" "I" ∈ wsX8_send := by decide +kernel
  have hw1 : Cond.fieldLink RX8 7 "TelexReceiverModel" "s" "[I" ∈ wsX8_send := by decide +kernel
  have hw2 : Cond.fieldLink RX8 16 "TelexReceiverModel" "buffer" "[I" ∈ wsX8_send := by decide +kernel
  have hiX8 : ∀ w ∈ u_ws RX8 TX8 17, w ∈ wsX8_send := by decide +kernel
  refine zg_of (own := RX8) (cc := cX8_send) (nL := 5) (ret := (some .int)) (by decide +kernel) rfl rfl (Nat.le_of_ble_eq_true rfl) (fun Z X hF => ?_)
  show zgGd G Z _ 0 0 5 _ 0 [(0, .ref q0)] []
  have hL53 : ∀ (n : Nat) (y1 : Int32) (y2 : Int32) (w0 : (Nat → Int32)) (w1 : (Nat → Int32)) (w2 : Int32) (w3 : (Nat → Int32)) (w4 : Int32) (w5 : Int32) (w6 : (Nat → Int32)) (w7 : Int32) (w8 : (Nat → Int32)) (w9 : (Nat → Int32)) (w10 : (Nat → Int32)) (w11 : Int32) (w12 : Int32) (w13 : Int32) (w14 : Int32) (w15 : (Nat → Int32)) (w16 : Int32), zf_X8_send_L53 fu v0 n y1 y2 w0 w1 w2 w3 w4 w5 w6 w7 w8 w9 w10 w11 w12 w13 w14 w15 w16 = some res → zgGd G Z ({ frames := 4, cells := 0, slots := 0, locals := 86 } : Room) 0 0 5 [(q0, .inr (7, [.ref q1, .ref q2, .int w2, .ref q3, .int w4, .int w5, .ref q4, .int w7, .ref q5, .ref q6, .ref q7, .int w11, .int w12, .int w13, .int w14, .ref q8, .int w16])), (q1, .inl (G.2.2.1, 946, .inl w0)), (q2, .inl (G.2.2.1, 5676, .inl w1)), (q3, .inl (G.2.2.1, 60, .inl w3)), (q4, .inl (G.2.2.1, 201, .inl w6)), (q5, .inl (G.2.2.1, 201, .inl w8)), (q6, .inl (G.2.2.1, 201, .inl w9)), (q7, .inl (G.2.2.1, 201, .inl w10)), (q8, .inl (G.2.2.1, 201, .inl w15))] 53 [(0, .ref q0), (1, .int y1), (2, .int y2)] [] := by
    intro n
    induction n with
    | zero =>
      intro y1 y2 w0 w1 w2 w3 w4 w5 w6 w7 w8 w9 w10 w11 w12 w13 w14 w15 w16 hf
      rw [zf_X8_send_L53] at hf
      cases hf
    | succ n53 ih53 =>
      have hb208 : ∀ (y1 : Int32) (y2 : Int32) (w0 : (Nat → Int32)) (w1 : (Nat → Int32)) (w2 : Int32) (w3 : (Nat → Int32)) (w4 : Int32) (w5 : Int32) (w6 : (Nat → Int32)) (w7 : Int32) (w8 : (Nat → Int32)) (w9 : (Nat → Int32)) (w10 : (Nat → Int32)) (w11 : Int32) (w12 : Int32) (w13 : Int32) (w14 : Int32) (w15 : (Nat → Int32)) (w16 : Int32), zf_X8_send_b208 fu v0 (zf_X8_send_L53 fu v0 n53) y1 y2 w0 w1 w2 w3 w4 w5 w6 w7 w8 w9 w10 w11 w12 w13 w14 w15 w16 = some res → zgGd G Z ({ frames := 4, cells := 0, slots := 0, locals := 86 } : Room) 0 0 5 [(q0, .inr (7, [.ref q1, .ref q2, .int w2, .ref q3, .int w4, .int w5, .ref q4, .int w7, .ref q5, .ref q6, .ref q7, .int w11, .int w12, .int w13, .int w14, .ref q8, .int w16])), (q1, .inl (G.2.2.1, 946, .inl w0)), (q2, .inl (G.2.2.1, 5676, .inl w1)), (q3, .inl (G.2.2.1, 60, .inl w3)), (q4, .inl (G.2.2.1, 201, .inl w6)), (q5, .inl (G.2.2.1, 201, .inl w8)), (q6, .inl (G.2.2.1, 201, .inl w9)), (q7, .inl (G.2.2.1, 201, .inl w10)), (q8, .inl (G.2.2.1, 201, .inl w15))] 208 [(0, .ref q0), (1, .int y1), (2, .int y2)] [] := by
        intro y1 y2 w0 w1 w2 w3 w4 w5 w6 w7 w8 w9 w10 w11 w12 w13 w14 w15 w16 hf
        unfold zf_X8_send_b208 at hf
        obtain ⟨x34, ex34, hf⟩ := pl_l hf
        refine zg_iinc (v := x34) (L' := [(2, .int x34), (0, .ref q0), (1, .int y1)]) X dX8_send_208 (j := 2) rfl (by rw [ex34]; rfl) (by decide) rfl ?_
        refine zg_goto (tgt := 53) X dX8_send_211 (by decide) ?_
        refine zg_loc [1, 2, 0] rfl ?_
        exact ih53 y1 x34 w0 w1 w2 w3 w4 w5 w6 w7 w8 w9 w10 w11 w12 w13 w14 w15 w16 hf
      have hb165 : ∀ (y1 : Int32) (y2 : Int32) (y3 : Int32) (z1 : Int32) (z2 : Int32) (w0 : (Nat → Int32)) (w1 : (Nat → Int32)) (w2 : Int32) (w3 : (Nat → Int32)) (w4 : Int32) (w5 : Int32) (w6 : (Nat → Int32)) (w7 : Int32) (w8 : (Nat → Int32)) (w9 : (Nat → Int32)) (w10 : (Nat → Int32)) (w11 : Int32) (w12 : Int32) (w13 : Int32) (w14 : Int32) (w15 : (Nat → Int32)) (w16 : Int32), zf_X8_send_b165 fu v0 (zf_X8_send_L53 fu v0 n53) y1 y2 y3 z1 z2 w0 w1 w2 w3 w4 w5 w6 w7 w8 w9 w10 w11 w12 w13 w14 w15 w16 = some res → zgGd G Z ({ frames := 4, cells := 0, slots := 0, locals := 86 } : Room) 0 0 5 [(q0, .inr (7, [.ref q1, .ref q2, .int w2, .ref q3, .int w4, .int w5, .ref q4, .int w7, .ref q5, .ref q6, .ref q7, .int w11, .int w12, .int w13, .int w14, .ref q8, .int w16])), (q1, .inl (G.2.2.1, 946, .inl w0)), (q2, .inl (G.2.2.1, 5676, .inl w1)), (q3, .inl (G.2.2.1, 60, .inl w3)), (q4, .inl (G.2.2.1, 201, .inl w6)), (q5, .inl (G.2.2.1, 201, .inl w8)), (q6, .inl (G.2.2.1, 201, .inl w9)), (q7, .inl (G.2.2.1, 201, .inl w10)), (q8, .inl (G.2.2.1, 201, .inl w15))] 165 [(0, .ref q0), (1, .int y1), (2, .int y2), (3, .int y3)] [.int z2, .int z1, .ref q1] := by
        intro y1 y2 y3 z1 z2 w0 w1 w2 w3 w4 w5 w6 w7 w8 w9 w10 w11 w12 w13 w14 w15 w16 hf
        unfold zf_X8_send_b165 at hf
        obtain ⟨hin, hf⟩ := pl_in hf
        obtain ⟨f26, ef26, hf⟩ := pl_l hf
        refine zg_iast (ws' := [(q0, .inr (7, [.ref q1, .ref q2, .int w2, .ref q3, .int w4, .int w5, .ref q4, .int w7, .ref q5, .ref q6, .ref q7, .int w11, .int w12, .int w13, .int w14, .ref q8, .int w16])), (q1, .inl (G.2.2.1, 946, .inl f26)), (q2, .inl (G.2.2.1, 5676, .inl w1)), (q3, .inl (G.2.2.1, 60, .inl w3)), (q4, .inl (G.2.2.1, 201, .inl w6)), (q5, .inl (G.2.2.1, 201, .inl w8)), (q6, .inl (G.2.2.1, 201, .inl w9)), (q7, .inl (G.2.2.1, 201, .inl w10)), (q8, .inl (G.2.2.1, 201, .inl w15))]) X 1 rfl hin (by subst ef26; rfl) dX8_send_165 ?_
        refine zg_iload_n X dX8_send_166 rfl 3 rfl ?_
        refine zg_bipush (v := 64) X dX8_send_167 (by decide) ?_
        refine zg_icmp_eq (tgt := 208) X dX8_send_169 (by decide) (fun c27 => ?_) (fun c27 => ?_)
        · have hf := pl_t c27 hf
          refine zg_loc [0, 1, 2] rfl ?_
          exact hb208 y1 y2 f26 w1 w2 w3 w4 w5 w6 w7 w8 w9 w10 w11 w12 w13 w14 w15 w16 hf
        · have hf := pl_f c27 hf
          refine zg_iload_n X dX8_send_172 rfl 3 rfl ?_
          refine zg_bipush (v := 35) X dX8_send_173 (by decide) ?_
          refine zg_icmp_eq (tgt := 208) X dX8_send_175 (by decide) (fun c28 => ?_) (fun c28 => ?_)
          · have hf := pl_t c28 hf
            refine zg_loc [0, 1, 2] rfl ?_
            exact hb208 y1 y2 f26 w1 w2 w3 w4 w5 w6 w7 w8 w9 w10 w11 w12 w13 w14 w15 w16 hf
          · have hf := pl_f c28 hf
            refine zg_aload_n X dX8_send_178 rfl 0 rfl ?_
            refine zg_get (C := RX8) (T := TX8) (N := 17) X 0 0 hiX8 rfl rfl (by decide) hw1 rfl dX8_send_179 ?_
            refine zg_sipush (v := 403) X dX8_send_182 (by decide) ?_
            refine zg_aload_n X dX8_send_185 rfl 0 rfl ?_
            refine zg_get (C := RX8) (T := TX8) (N := 17) X 0 0 hiX8 rfl rfl (by decide) hw1 rfl dX8_send_186 ?_
            refine zg_sipush (v := 402) X dX8_send_189 (by decide) ?_
            refine zg_iald X 1 rfl (by unfold vp_in; decide) dX8_send_192 ?_
            obtain ⟨x29, ex29, hf⟩ := pl_l hf
            refine zg_topi ex29 ?_
            refine zg_iadd X dX8_send_193 ?_
            refine zg_iload_n X dX8_send_194 rfl 3 rfl ?_
            obtain ⟨hin, hf⟩ := pl_in hf
            obtain ⟨f30, ef30, hf⟩ := pl_l hf
            refine zg_iast (ws' := [(q0, .inr (7, [.ref q1, .ref q2, .int w2, .ref q3, .int w4, .int w5, .ref q4, .int w7, .ref q5, .ref q6, .ref q7, .int w11, .int w12, .int w13, .int w14, .ref q8, .int w16])), (q1, .inl (G.2.2.1, 946, .inl f30)), (q2, .inl (G.2.2.1, 5676, .inl w1)), (q3, .inl (G.2.2.1, 60, .inl w3)), (q4, .inl (G.2.2.1, 201, .inl w6)), (q5, .inl (G.2.2.1, 201, .inl w8)), (q6, .inl (G.2.2.1, 201, .inl w9)), (q7, .inl (G.2.2.1, 201, .inl w10)), (q8, .inl (G.2.2.1, 201, .inl w15))]) X 1 rfl hin (by subst ef30; rfl) dX8_send_195 ?_
            refine zg_aload_n X dX8_send_196 rfl 0 rfl ?_
            refine zg_get (C := RX8) (T := TX8) (N := 17) X 0 0 hiX8 rfl rfl (by decide) hw1 rfl dX8_send_197 ?_
            refine zg_sipush (v := 402) X dX8_send_200 (by decide) ?_
            refine zg_dup2 X dX8_send_203 rfl rfl ?_
            refine zg_iald X 1 rfl (by unfold vp_in; decide) dX8_send_204 ?_
            obtain ⟨x31, ex31, hf⟩ := pl_l hf
            refine zg_topi ex31 ?_
            refine zg_iconst (v := 1) X dX8_send_205 (by decide) ?_
            refine zg_iadd X dX8_send_206 ?_
            obtain ⟨x32, ex32, hf⟩ := pl_l hf
            refine zg_topi ex32 ?_
            obtain ⟨f33, ef33, hf⟩ := pl_l hf
            refine zg_iast (ws' := [(q0, .inr (7, [.ref q1, .ref q2, .int w2, .ref q3, .int w4, .int w5, .ref q4, .int w7, .ref q5, .ref q6, .ref q7, .int w11, .int w12, .int w13, .int w14, .ref q8, .int w16])), (q1, .inl (G.2.2.1, 946, .inl f33)), (q2, .inl (G.2.2.1, 5676, .inl w1)), (q3, .inl (G.2.2.1, 60, .inl w3)), (q4, .inl (G.2.2.1, 201, .inl w6)), (q5, .inl (G.2.2.1, 201, .inl w8)), (q6, .inl (G.2.2.1, 201, .inl w9)), (q7, .inl (G.2.2.1, 201, .inl w10)), (q8, .inl (G.2.2.1, 201, .inl w15))]) X 1 rfl (by unfold vp_in; decide) (by subst ef33; rfl) dX8_send_207 ?_
            refine zg_loc [0, 1, 2] rfl ?_
            exact hb208 y1 y2 f33 w1 w2 w3 w4 w5 w6 w7 w8 w9 w10 w11 w12 w13 w14 w15 w16 hf
      have hb157 : ∀ (y1 : Int32) (y2 : Int32) (y3 : Int32) (z1 : Int32) (w0 : (Nat → Int32)) (w1 : (Nat → Int32)) (w2 : Int32) (w3 : (Nat → Int32)) (w4 : Int32) (w5 : Int32) (w6 : (Nat → Int32)) (w7 : Int32) (w8 : (Nat → Int32)) (w9 : (Nat → Int32)) (w10 : (Nat → Int32)) (w11 : Int32) (w12 : Int32) (w13 : Int32) (w14 : Int32) (w15 : (Nat → Int32)) (w16 : Int32), zf_X8_send_b157 fu v0 (zf_X8_send_L53 fu v0 n53) y1 y2 y3 z1 w0 w1 w2 w3 w4 w5 w6 w7 w8 w9 w10 w11 w12 w13 w14 w15 w16 = some res → zgGd G Z ({ frames := 4, cells := 0, slots := 0, locals := 86 } : Room) 0 0 5 [(q0, .inr (7, [.ref q1, .ref q2, .int w2, .ref q3, .int w4, .int w5, .ref q4, .int w7, .ref q5, .ref q6, .ref q7, .int w11, .int w12, .int w13, .int w14, .ref q8, .int w16])), (q1, .inl (G.2.2.1, 946, .inl w0)), (q2, .inl (G.2.2.1, 5676, .inl w1)), (q3, .inl (G.2.2.1, 60, .inl w3)), (q4, .inl (G.2.2.1, 201, .inl w6)), (q5, .inl (G.2.2.1, 201, .inl w8)), (q6, .inl (G.2.2.1, 201, .inl w9)), (q7, .inl (G.2.2.1, 201, .inl w10)), (q8, .inl (G.2.2.1, 201, .inl w15))] 157 [(0, .ref q0), (1, .int y1), (2, .int y2), (3, .int y3)] [.int z1, .ref q1] := by
        intro y1 y2 y3 z1 w0 w1 w2 w3 w4 w5 w6 w7 w8 w9 w10 w11 w12 w13 w14 w15 w16 hf
        unfold zf_X8_send_b157 at hf
        refine zg_aload_n X dX8_send_157 rfl 0 rfl ?_
        refine zg_get (C := RX8) (T := TX8) (N := 17) X 0 0 hiX8 rfl rfl (by decide) hw1 rfl dX8_send_158 ?_
        refine zg_sipush (v := 603) X dX8_send_161 (by decide) ?_
        refine zg_iald X 1 rfl (by unfold vp_in; decide) dX8_send_164 ?_
        obtain ⟨x25, ex25, hf⟩ := pl_l hf
        refine zg_topi ex25 ?_
        exact hb165 y1 y2 y3 z1 x25 w0 w1 w2 w3 w4 w5 w6 w7 w8 w9 w10 w11 w12 w13 w14 w15 w16 hf
      have hb120 : ∀ (y1 : Int32) (y2 : Int32) (y3 : Int32) (w0 : (Nat → Int32)) (w1 : (Nat → Int32)) (w2 : Int32) (w3 : (Nat → Int32)) (w4 : Int32) (w5 : Int32) (w6 : (Nat → Int32)) (w7 : Int32) (w8 : (Nat → Int32)) (w9 : (Nat → Int32)) (w10 : (Nat → Int32)) (w11 : Int32) (w12 : Int32) (w13 : Int32) (w14 : Int32) (w15 : (Nat → Int32)) (w16 : Int32), zf_X8_send_b120 fu v0 (zf_X8_send_L53 fu v0 n53) y1 y2 y3 w0 w1 w2 w3 w4 w5 w6 w7 w8 w9 w10 w11 w12 w13 w14 w15 w16 = some res → zgGd G Z ({ frames := 4, cells := 0, slots := 0, locals := 86 } : Room) 0 0 5 [(q0, .inr (7, [.ref q1, .ref q2, .int w2, .ref q3, .int w4, .int w5, .ref q4, .int w7, .ref q5, .ref q6, .ref q7, .int w11, .int w12, .int w13, .int w14, .ref q8, .int w16])), (q1, .inl (G.2.2.1, 946, .inl w0)), (q2, .inl (G.2.2.1, 5676, .inl w1)), (q3, .inl (G.2.2.1, 60, .inl w3)), (q4, .inl (G.2.2.1, 201, .inl w6)), (q5, .inl (G.2.2.1, 201, .inl w8)), (q6, .inl (G.2.2.1, 201, .inl w9)), (q7, .inl (G.2.2.1, 201, .inl w10)), (q8, .inl (G.2.2.1, 201, .inl w15))] 120 [(0, .ref q0), (1, .int y1), (2, .int y2), (3, .int y3)] [] := by
        intro y1 y2 y3 w0 w1 w2 w3 w4 w5 w6 w7 w8 w9 w10 w11 w12 w13 w14 w15 w16 hf
        unfold zf_X8_send_b120 at hf
        refine zg_aload_n X dX8_send_120 rfl 0 rfl ?_
        refine zg_iload_n X dX8_send_121 rfl 3 rfl ?_
        obtain ⟨b18, hb18, hf⟩ := pl_b hf
        refine zg_cP1 X (zg_runS X (zc_X8_codeOf G y3 fu b18 hb18) gX8_send_X8_codeOf rfl zh_X8_codeOf.2 ⟨rfl, rfl⟩ ⟨Nat.le_of_ble_eq_true rfl, Nat.le_of_ble_eq_true rfl⟩ rfl (Nat.le_of_ble_eq_true rfl) ⟨Nat.le_of_ble_eq_true rfl, Nat.le_of_ble_eq_true rfl⟩ [] (by decide) rfl rfl dX8_send_122) rfl ?_
        obtain ⟨b19, hb19, hf⟩ := pl_b hf
        refine zg_cU0 (ws2 := [(q0, .inr (7, [.ref q1, .ref q2, .int b19.2.2.1, .ref q3, .int b19.2.2.2.2.1, .int b19.2.2.2.2.2.1, .ref q4, .int b19.2.2.2.2.2.2.2.1, .ref q5, .ref q6, .ref q7, .int b19.2.2.2.2.2.2.2.2.2.2.2.1, .int b19.2.2.2.2.2.2.2.2.2.2.2.2.1, .int b19.2.2.2.2.2.2.2.2.2.2.2.2.2.1, .int b19.2.2.2.2.2.2.2.2.2.2.2.2.2.2.1, .ref q8, .int b19.2.2.2.2.2.2.2.2.2.2.2.2.2.2.2.2])), (q1, .inl (G.2.2.1, 946, .inl b19.1)), (q2, .inl (G.2.2.1, 5676, .inl b19.2.1)), (q3, .inl (G.2.2.1, 60, .inl b19.2.2.2.1)), (q4, .inl (G.2.2.1, 201, .inl b19.2.2.2.2.2.2.1)), (q5, .inl (G.2.2.1, 201, .inl b19.2.2.2.2.2.2.2.2.1)), (q6, .inl (G.2.2.1, 201, .inl b19.2.2.2.2.2.2.2.2.2.1)), (q7, .inl (G.2.2.1, 201, .inl b19.2.2.2.2.2.2.2.2.2.2.1)), (q8, .inl (G.2.2.1, 201, .inl b19.2.2.2.2.2.2.2.2.2.2.2.2.2.2.2.1))]) X (zg_runV X (zc_X8_sends G q0 q1 q2 q3 q4 q5 q6 q7 q8 (w0, w1, w2, w3, w4, w5, w6, w7, w8, w9, w10, w11, w12, w13, w14, w15, w16) b18 fu b19 hb19) gX8_send_X8_sends rfl zh_X8_sends ⟨rfl, rfl⟩ ⟨Nat.le_of_ble_eq_true rfl, Nat.le_of_ble_eq_true rfl⟩ rfl rfl rfl (Nat.le_of_ble_eq_true rfl) ⟨Nat.le_of_ble_eq_true rfl, Nat.le_of_ble_eq_true rfl⟩ [0, 1, 2, 3, 4, 5, 6, 7, 8] (by decide) rfl rfl dX8_send_125) rfl rfl ?_
        refine zg_aload_n X dX8_send_128 rfl 0 rfl ?_
        refine zg_get (C := RX8) (T := TX8) (N := 17) X 0 0 hiX8 rfl rfl (by decide) hw1 rfl dX8_send_129 ?_
        refine zg_sipush (v := 603) X dX8_send_132 (by decide) ?_
        refine zg_iload_n X dX8_send_135 rfl 3 rfl ?_
        refine zg_bipush (v := 32) X dX8_send_136 (by decide) ?_
        refine zg_icmp_ne (tgt := 157) X dX8_send_138 (by decide) (fun c20 => ?_) (fun c20 => ?_)
        · have hf := pl_f c20 hf
          exact hb157 y1 y2 y3 603 b19.1 b19.2.1 b19.2.2.1 b19.2.2.2.1 b19.2.2.2.2.1 b19.2.2.2.2.2.1 b19.2.2.2.2.2.2.1 b19.2.2.2.2.2.2.2.1 b19.2.2.2.2.2.2.2.2.1 b19.2.2.2.2.2.2.2.2.2.1 b19.2.2.2.2.2.2.2.2.2.2.1 b19.2.2.2.2.2.2.2.2.2.2.2.1 b19.2.2.2.2.2.2.2.2.2.2.2.2.1 b19.2.2.2.2.2.2.2.2.2.2.2.2.2.1 b19.2.2.2.2.2.2.2.2.2.2.2.2.2.2.1 b19.2.2.2.2.2.2.2.2.2.2.2.2.2.2.2.1 b19.2.2.2.2.2.2.2.2.2.2.2.2.2.2.2.2 hf
        · have hf := pl_t c20 hf
          refine zg_aload_n X dX8_send_141 rfl 0 rfl ?_
          refine zg_get (C := RX8) (T := TX8) (N := 17) X 0 0 hiX8 rfl rfl (by decide) hw1 rfl dX8_send_142 ?_
          refine zg_sipush (v := 604) X dX8_send_145 (by decide) ?_
          refine zg_iald X 1 rfl (by unfold vp_in; decide) dX8_send_148 ?_
          obtain ⟨x21, ex21, hf⟩ := pl_l hf
          refine zg_topi ex21 ?_
          refine zg_iconst (v := 1) X dX8_send_149 (by decide) ?_
          refine zg_icmp_ne (tgt := 157) X dX8_send_150 (by decide) (fun c22 => ?_) (fun c22 => ?_)
          · have hf := pl_f c22 hf
            exact hb157 y1 y2 y3 603 b19.1 b19.2.1 b19.2.2.1 b19.2.2.2.1 b19.2.2.2.2.1 b19.2.2.2.2.2.1 b19.2.2.2.2.2.2.1 b19.2.2.2.2.2.2.2.1 b19.2.2.2.2.2.2.2.2.1 b19.2.2.2.2.2.2.2.2.2.1 b19.2.2.2.2.2.2.2.2.2.2.1 b19.2.2.2.2.2.2.2.2.2.2.2.1 b19.2.2.2.2.2.2.2.2.2.2.2.2.1 b19.2.2.2.2.2.2.2.2.2.2.2.2.2.1 b19.2.2.2.2.2.2.2.2.2.2.2.2.2.2.1 b19.2.2.2.2.2.2.2.2.2.2.2.2.2.2.2.1 b19.2.2.2.2.2.2.2.2.2.2.2.2.2.2.2.2 hf
          · have hf := pl_t c22 hf
            refine zg_iconst (v := 0) X dX8_send_153 (by decide) ?_
            refine zg_goto (tgt := 165) X dX8_send_154 (by decide) ?_
            exact hb165 y1 y2 y3 603 0 b19.1 b19.2.1 b19.2.2.1 b19.2.2.2.1 b19.2.2.2.2.1 b19.2.2.2.2.2.1 b19.2.2.2.2.2.2.1 b19.2.2.2.2.2.2.2.1 b19.2.2.2.2.2.2.2.2.1 b19.2.2.2.2.2.2.2.2.2.1 b19.2.2.2.2.2.2.2.2.2.2.1 b19.2.2.2.2.2.2.2.2.2.2.2.1 b19.2.2.2.2.2.2.2.2.2.2.2.2.1 b19.2.2.2.2.2.2.2.2.2.2.2.2.2.1 b19.2.2.2.2.2.2.2.2.2.2.2.2.2.2.1 b19.2.2.2.2.2.2.2.2.2.2.2.2.2.2.2.1 b19.2.2.2.2.2.2.2.2.2.2.2.2.2.2.2.2 hf
      have hb107 : ∀ (y1 : Int32) (y2 : Int32) (y3 : Int32) (y4 : Int32) (z1 : Int32) (w0 : (Nat → Int32)) (w1 : (Nat → Int32)) (w2 : Int32) (w3 : (Nat → Int32)) (w4 : Int32) (w5 : Int32) (w6 : (Nat → Int32)) (w7 : Int32) (w8 : (Nat → Int32)) (w9 : (Nat → Int32)) (w10 : (Nat → Int32)) (w11 : Int32) (w12 : Int32) (w13 : Int32) (w14 : Int32) (w15 : (Nat → Int32)) (w16 : Int32), zf_X8_send_b107 fu v0 (zf_X8_send_L53 fu v0 n53) y1 y2 y3 y4 z1 w0 w1 w2 w3 w4 w5 w6 w7 w8 w9 w10 w11 w12 w13 w14 w15 w16 = some res → zgGd G Z ({ frames := 4, cells := 0, slots := 0, locals := 86 } : Room) 0 0 5 [(q0, .inr (7, [.ref q1, .ref q2, .int w2, .ref q3, .int w4, .int w5, .ref q4, .int w7, .ref q5, .ref q6, .ref q7, .int w11, .int w12, .int w13, .int w14, .ref q8, .int w16])), (q1, .inl (G.2.2.1, 946, .inl w0)), (q2, .inl (G.2.2.1, 5676, .inl w1)), (q3, .inl (G.2.2.1, 60, .inl w3)), (q4, .inl (G.2.2.1, 201, .inl w6)), (q5, .inl (G.2.2.1, 201, .inl w8)), (q6, .inl (G.2.2.1, 201, .inl w9)), (q7, .inl (G.2.2.1, 201, .inl w10)), (q8, .inl (G.2.2.1, 201, .inl w15))] 107 [(0, .ref q0), (1, .int y1), (2, .int y2), (3, .int y3), (4, .int y4)] [.int z1, .ref q0] := by
        intro y1 y2 y3 y4 z1 w0 w1 w2 w3 w4 w5 w6 w7 w8 w9 w10 w11 w12 w13 w14 w15 w16 hf
        unfold zf_X8_send_b107 at hf
        obtain ⟨b23, hb23, hf⟩ := pl_b hf
        refine zg_cU0 (ws2 := [(q0, .inr (7, [.ref q1, .ref q2, .int b23.2.2.1, .ref q3, .int b23.2.2.2.2.1, .int b23.2.2.2.2.2.1, .ref q4, .int b23.2.2.2.2.2.2.2.1, .ref q5, .ref q6, .ref q7, .int b23.2.2.2.2.2.2.2.2.2.2.2.1, .int b23.2.2.2.2.2.2.2.2.2.2.2.2.1, .int b23.2.2.2.2.2.2.2.2.2.2.2.2.2.1, .int b23.2.2.2.2.2.2.2.2.2.2.2.2.2.2.1, .ref q8, .int b23.2.2.2.2.2.2.2.2.2.2.2.2.2.2.2.2])), (q1, .inl (G.2.2.1, 946, .inl b23.1)), (q2, .inl (G.2.2.1, 5676, .inl b23.2.1)), (q3, .inl (G.2.2.1, 60, .inl b23.2.2.2.1)), (q4, .inl (G.2.2.1, 201, .inl b23.2.2.2.2.2.2.1)), (q5, .inl (G.2.2.1, 201, .inl b23.2.2.2.2.2.2.2.2.1)), (q6, .inl (G.2.2.1, 201, .inl b23.2.2.2.2.2.2.2.2.2.1)), (q7, .inl (G.2.2.1, 201, .inl b23.2.2.2.2.2.2.2.2.2.2.1)), (q8, .inl (G.2.2.1, 201, .inl b23.2.2.2.2.2.2.2.2.2.2.2.2.2.2.2.1))]) X (zg_runV X (zc_X8_sends G q0 q1 q2 q3 q4 q5 q6 q7 q8 (w0, w1, w2, w3, w4, w5, w6, w7, w8, w9, w10, w11, w12, w13, w14, w15, w16) z1 fu b23 hb23) gX8_send_X8_sends rfl zh_X8_sends ⟨rfl, rfl⟩ ⟨Nat.le_of_ble_eq_true rfl, Nat.le_of_ble_eq_true rfl⟩ rfl rfl rfl (Nat.le_of_ble_eq_true rfl) ⟨Nat.le_of_ble_eq_true rfl, Nat.le_of_ble_eq_true rfl⟩ [0, 1, 2, 3, 4, 5, 6, 7, 8] (by decide) rfl rfl dX8_send_107) rfl rfl ?_
        refine zg_aload_n X dX8_send_110 rfl 0 rfl ?_
        refine zg_get (C := RX8) (T := TX8) (N := 17) X 0 0 hiX8 rfl rfl (by decide) hw1 rfl dX8_send_111 ?_
        refine zg_sipush (v := 603) X dX8_send_114 (by decide) ?_
        refine zg_iload X dX8_send_117 4 rfl ?_
        obtain ⟨f24, ef24, hf⟩ := pl_l hf
        refine zg_iast (ws' := [(q0, .inr (7, [.ref q1, .ref q2, .int b23.2.2.1, .ref q3, .int b23.2.2.2.2.1, .int b23.2.2.2.2.2.1, .ref q4, .int b23.2.2.2.2.2.2.2.1, .ref q5, .ref q6, .ref q7, .int b23.2.2.2.2.2.2.2.2.2.2.2.1, .int b23.2.2.2.2.2.2.2.2.2.2.2.2.1, .int b23.2.2.2.2.2.2.2.2.2.2.2.2.2.1, .int b23.2.2.2.2.2.2.2.2.2.2.2.2.2.2.1, .ref q8, .int b23.2.2.2.2.2.2.2.2.2.2.2.2.2.2.2.2])), (q1, .inl (G.2.2.1, 946, .inl f24)), (q2, .inl (G.2.2.1, 5676, .inl b23.2.1)), (q3, .inl (G.2.2.1, 60, .inl b23.2.2.2.1)), (q4, .inl (G.2.2.1, 201, .inl b23.2.2.2.2.2.2.1)), (q5, .inl (G.2.2.1, 201, .inl b23.2.2.2.2.2.2.2.2.1)), (q6, .inl (G.2.2.1, 201, .inl b23.2.2.2.2.2.2.2.2.2.1)), (q7, .inl (G.2.2.1, 201, .inl b23.2.2.2.2.2.2.2.2.2.2.1)), (q8, .inl (G.2.2.1, 201, .inl b23.2.2.2.2.2.2.2.2.2.2.2.2.2.2.2.1))]) X 1 rfl (by unfold vp_in; decide) (by subst ef24; rfl) dX8_send_119 ?_
        refine zg_loc [0, 1, 2, 3] rfl ?_
        exact hb120 y1 y2 y3 f24 b23.2.1 b23.2.2.1 b23.2.2.2.1 b23.2.2.2.2.1 b23.2.2.2.2.2.1 b23.2.2.2.2.2.2.1 b23.2.2.2.2.2.2.2.1 b23.2.2.2.2.2.2.2.2.1 b23.2.2.2.2.2.2.2.2.2.1 b23.2.2.2.2.2.2.2.2.2.2.1 b23.2.2.2.2.2.2.2.2.2.2.2.1 b23.2.2.2.2.2.2.2.2.2.2.2.2.1 b23.2.2.2.2.2.2.2.2.2.2.2.2.2.1 b23.2.2.2.2.2.2.2.2.2.2.2.2.2.2.1 b23.2.2.2.2.2.2.2.2.2.2.2.2.2.2.2.1 b23.2.2.2.2.2.2.2.2.2.2.2.2.2.2.2.2 hf
      intro y1 y2 w0 w1 w2 w3 w4 w5 w6 w7 w8 w9 w10 w11 w12 w13 w14 w15 w16 hf
      rw [zf_X8_send_L53] at hf
      refine zg_iload_n X dX8_send_53 rfl 2 rfl ?_
      refine zg_aload_n X dX8_send_54 rfl 0 rfl ?_
      refine zg_get (C := RX8) (T := TX8) (N := 17) X 0 4 hiX8 rfl rfl (by decide) hw0 rfl dX8_send_55 ?_
      refine zg_icmp_ge (tgt := 214) X dX8_send_58 (by decide) (fun c9 => ?_) (fun c9 => ?_)
      · have hf := pl_t c9 hf
        refine zg_aload_n X dX8_send_214 rfl 0 rfl ?_
        refine zg_iconst (v := 0) X dX8_send_215 (by decide) ?_
        refine zg_put (C := RX8) (T := TX8) (N := 17) (ty := .int) (ws' := [(q0, .inr (7, [.ref q1, .ref q2, .int w2, .ref q3, .int 0, .int w5, .ref q4, .int w7, .ref q5, .ref q6, .ref q7, .int w11, .int w12, .int w13, .int w14, .ref q8, .int w16])), (q1, .inl (G.2.2.1, 946, .inl w0)), (q2, .inl (G.2.2.1, 5676, .inl w1)), (q3, .inl (G.2.2.1, 60, .inl w3)), (q4, .inl (G.2.2.1, 201, .inl w6)), (q5, .inl (G.2.2.1, 201, .inl w8)), (q6, .inl (G.2.2.1, 201, .inl w9)), (q7, .inl (G.2.2.1, 201, .inl w10)), (q8, .inl (G.2.2.1, 201, .inl w15))]) X 0 4 hiX8 tyX8 tyX8_ok nmX8 rfl rfl (by decide) hw0 rfl (by decide +kernel) rfl rfl (Nat.le_of_ble_eq_true rfl) rfl dX8_send_216 ?_
        refine zg_aload_n X dX8_send_219 rfl 0 rfl ?_
        refine zg_get (C := RX8) (T := TX8) (N := 17) X 0 0 hiX8 rfl rfl (by decide) hw1 rfl dX8_send_220 ?_
        refine zg_sipush (v := 201) X dX8_send_223 (by decide) ?_
        refine zg_iald X 1 rfl (by unfold vp_in; decide) dX8_send_226 ?_
        obtain ⟨x10, ex10, hf⟩ := pl_l hf
        refine zg_topi ex10 ?_
        refine zg_iload_n X dX8_send_227 rfl 1 rfl ?_
        refine zg_isub X dX8_send_228 ?_
        obtain ⟨x11, ex11, hf⟩ := pl_l hf
        refine zg_topi ex11 ?_
        have hf := Option.some.inj hf
        subst hf
        exact zg_iret X hF rfl rfl () rfl rfl (Nat.le_of_ble_eq_true rfl) (Nat.le_of_ble_eq_true rfl) dX8_send_229
      · have hf := pl_f c9 hf
        refine zg_aload_n X dX8_send_61 rfl 0 rfl ?_
        refine zg_get (C := RX8) (T := TX8) (N := 17) X 0 3 hiX8 rfl rfl (by decide) hw2 rfl dX8_send_62 ?_
        refine zg_iload_n X dX8_send_65 rfl 2 rfl ?_
        obtain ⟨hin, hf⟩ := pl_in hf
        refine zg_iald X 3 rfl hin dX8_send_66 ?_
        obtain ⟨x12, ex12, hf⟩ := pl_l hf
        refine zg_topi ex12 ?_
        refine zg_istore_n (L' := [(3, .int x12), (0, .ref q0), (1, .int y1), (2, .int y2)]) X dX8_send_67 rfl (by decide) rfl ?_
        refine zg_iload_n X dX8_send_68 rfl 0 rfl ?_
        obtain ⟨b13, hb13, hf⟩ := pl_b hf
        refine zg_cP1 X (zg_runS X (zc_X8_shiftOf G x12 fu b13 hb13) gX8_send_X8_shiftOf rfl zh_X8_shiftOf.2 ⟨rfl, rfl⟩ ⟨Nat.le_of_ble_eq_true rfl, Nat.le_of_ble_eq_true rfl⟩ rfl (Nat.le_of_ble_eq_true rfl) ⟨Nat.le_of_ble_eq_true rfl, Nat.le_of_ble_eq_true rfl⟩ [] (by decide) rfl rfl dX8_send_69) rfl ?_
        refine zg_istore (L' := [(4, .int b13), (3, .int x12), (0, .ref q0), (1, .int y1), (2, .int y2)]) X dX8_send_72 (by decide) rfl ?_
        refine zg_iload X dX8_send_74 0 rfl ?_
        refine zg_iconst (v := (-1)) X dX8_send_76 (by decide) ?_
        refine zg_icmp_eq (tgt := 120) X dX8_send_77 (by decide) (fun c14 => ?_) (fun c14 => ?_)
        · have hf := pl_t c14 hf
          refine zg_loc [2, 3, 4, 1] rfl ?_
          exact hb120 y1 y2 x12 w0 w1 w2 w3 w4 w5 w6 w7 w8 w9 w10 w11 w12 w13 w14 w15 w16 hf
        · have hf := pl_f c14 hf
          refine zg_iload X dX8_send_80 0 rfl ?_
          refine zg_aload_n X dX8_send_82 rfl 2 rfl ?_
          refine zg_get (C := RX8) (T := TX8) (N := 17) X 0 0 hiX8 rfl rfl (by decide) hw1 rfl dX8_send_83 ?_
          refine zg_sipush (v := 603) X dX8_send_86 (by decide) ?_
          refine zg_iald X 1 rfl (by unfold vp_in; decide) dX8_send_89 ?_
          obtain ⟨x15, ex15, hf⟩ := pl_l hf
          refine zg_topi ex15 ?_
          refine zg_icmp_eq (tgt := 120) X dX8_send_90 (by decide) (fun c16 => ?_) (fun c16 => ?_)
          · have hf := pl_t c16 hf
            refine zg_loc [2, 3, 4, 1] rfl ?_
            exact hb120 y1 y2 x12 w0 w1 w2 w3 w4 w5 w6 w7 w8 w9 w10 w11 w12 w13 w14 w15 w16 hf
          · have hf := pl_f c16 hf
            refine zg_aload_n X dX8_send_93 rfl 2 rfl ?_
            refine zg_iload X dX8_send_94 0 rfl ?_
            refine zg_iconst (v := 1) X dX8_send_96 (by decide) ?_
            refine zg_icmp_ne (tgt := 105) X dX8_send_97 (by decide) (fun c17 => ?_) (fun c17 => ?_)
            · have hf := pl_f c17 hf
              refine zg_bipush (v := 31) X dX8_send_105 (by decide) ?_
              refine zg_loc [2, 3, 4, 1, 0] rfl ?_
              exact hb107 y1 y2 x12 b13 31 w0 w1 w2 w3 w4 w5 w6 w7 w8 w9 w10 w11 w12 w13 w14 w15 w16 hf
            · have hf := pl_t c17 hf
              refine zg_bipush (v := 30) X dX8_send_100 (by decide) ?_
              refine zg_goto (tgt := 107) X dX8_send_102 (by decide) ?_
              refine zg_loc [2, 3, 4, 1, 0] rfl ?_
              exact hb107 y1 y2 x12 b13 30 w0 w1 w2 w3 w4 w5 w6 w7 w8 w9 w10 w11 w12 w13 w14 w15 w16 hf
  have hb30 : ∀ (z1 : Int32) (w0 : (Nat → Int32)) (w1 : (Nat → Int32)) (w2 : Int32) (w3 : (Nat → Int32)) (w4 : Int32) (w5 : Int32) (w6 : (Nat → Int32)) (w7 : Int32) (w8 : (Nat → Int32)) (w9 : (Nat → Int32)) (w10 : (Nat → Int32)) (w11 : Int32) (w12 : Int32) (w13 : Int32) (w14 : Int32) (w15 : (Nat → Int32)) (w16 : Int32), zf_X8_send_b30 fu v0 z1 w0 w1 w2 w3 w4 w5 w6 w7 w8 w9 w10 w11 w12 w13 w14 w15 w16 = some res → zgGd G Z ({ frames := 4, cells := 0, slots := 0, locals := 86 } : Room) 0 0 5 [(q0, .inr (7, [.ref q1, .ref q2, .int w2, .ref q3, .int w4, .int w5, .ref q4, .int w7, .ref q5, .ref q6, .ref q7, .int w11, .int w12, .int w13, .int w14, .ref q8, .int w16])), (q1, .inl (G.2.2.1, 946, .inl w0)), (q2, .inl (G.2.2.1, 5676, .inl w1)), (q3, .inl (G.2.2.1, 60, .inl w3)), (q4, .inl (G.2.2.1, 201, .inl w6)), (q5, .inl (G.2.2.1, 201, .inl w8)), (q6, .inl (G.2.2.1, 201, .inl w9)), (q7, .inl (G.2.2.1, 201, .inl w10)), (q8, .inl (G.2.2.1, 201, .inl w15))] 30 [(0, .ref q0)] [.int z1, .ref q0] := by
    intro z1 w0 w1 w2 w3 w4 w5 w6 w7 w8 w9 w10 w11 w12 w13 w14 w15 w16 hf
    unfold zf_X8_send_b30 at hf
    obtain ⟨b5, hb5, hf⟩ := pl_b hf
    refine zg_cU1 (ws2 := [(q0, .inr (7, [.ref q1, .ref q2, .int b5.2.2.2.1, .ref q3, .int b5.2.2.2.2.2.1, .int b5.2.2.2.2.2.2.1, .ref q4, .int b5.2.2.2.2.2.2.2.2.1, .ref q5, .ref q6, .ref q7, .int b5.2.2.2.2.2.2.2.2.2.2.2.2.1, .int b5.2.2.2.2.2.2.2.2.2.2.2.2.2.1, .int b5.2.2.2.2.2.2.2.2.2.2.2.2.2.2.1, .int b5.2.2.2.2.2.2.2.2.2.2.2.2.2.2.2.1, .ref q8, .int b5.2.2.2.2.2.2.2.2.2.2.2.2.2.2.2.2.2])), (q1, .inl (G.2.2.1, 946, .inl b5.2.1)), (q2, .inl (G.2.2.1, 5676, .inl b5.2.2.1)), (q3, .inl (G.2.2.1, 60, .inl b5.2.2.2.2.1)), (q4, .inl (G.2.2.1, 201, .inl b5.2.2.2.2.2.2.2.1)), (q5, .inl (G.2.2.1, 201, .inl b5.2.2.2.2.2.2.2.2.2.1)), (q6, .inl (G.2.2.1, 201, .inl b5.2.2.2.2.2.2.2.2.2.2.1)), (q7, .inl (G.2.2.1, 201, .inl b5.2.2.2.2.2.2.2.2.2.2.2.1)), (q8, .inl (G.2.2.1, 201, .inl b5.2.2.2.2.2.2.2.2.2.2.2.2.2.2.2.2.1))]) X (zg_runV X (zc_X8_refused G q0 q1 q2 q3 q4 q5 q6 q7 q8 (w0, w1, w2, w3, w4, w5, w6, w7, w8, w9, w10, w11, w12, w13, w14, w15, w16) z1 fu b5 hb5) gX8_send_X8_refused rfl zh_X8_refused ⟨rfl, rfl⟩ ⟨Nat.le_of_ble_eq_true rfl, Nat.le_of_ble_eq_true rfl⟩ rfl rfl rfl (Nat.le_of_ble_eq_true rfl) ⟨Nat.le_of_ble_eq_true rfl, Nat.le_of_ble_eq_true rfl⟩ [0, 1, 2, 3, 4, 5, 6, 7, 8] (by decide) rfl rfl dX8_send_30) rfl rfl ?_
    refine zg_if_eq (tgt := 38) X dX8_send_33 (by decide) (fun c6 => ?_) (fun c6 => ?_)
    · have hf := pl_t c6 hf
      refine zg_aload_n X dX8_send_38 rfl 0 rfl ?_
      obtain ⟨b7, hb7, hf⟩ := pl_b hf
      refine zg_cU0 (ws2 := [(q0, .inr (7, [.ref q1, .ref q2, .int b7.2.2.1, .ref q3, .int b7.2.2.2.2.1, .int b7.2.2.2.2.2.1, .ref q4, .int b7.2.2.2.2.2.2.2.1, .ref q5, .ref q6, .ref q7, .int b7.2.2.2.2.2.2.2.2.2.2.2.1, .int b7.2.2.2.2.2.2.2.2.2.2.2.2.1, .int b7.2.2.2.2.2.2.2.2.2.2.2.2.2.1, .int b7.2.2.2.2.2.2.2.2.2.2.2.2.2.2.1, .ref q8, .int b7.2.2.2.2.2.2.2.2.2.2.2.2.2.2.2.2])), (q1, .inl (G.2.2.1, 946, .inl b7.1)), (q2, .inl (G.2.2.1, 5676, .inl b7.2.1)), (q3, .inl (G.2.2.1, 60, .inl b7.2.2.2.1)), (q4, .inl (G.2.2.1, 201, .inl b7.2.2.2.2.2.2.1)), (q5, .inl (G.2.2.1, 201, .inl b7.2.2.2.2.2.2.2.2.1)), (q6, .inl (G.2.2.1, 201, .inl b7.2.2.2.2.2.2.2.2.2.1)), (q7, .inl (G.2.2.1, 201, .inl b7.2.2.2.2.2.2.2.2.2.2.1)), (q8, .inl (G.2.2.1, 201, .inl b7.2.2.2.2.2.2.2.2.2.2.2.2.2.2.2.1))]) X (zg_runV X (zc_X8_saves G q0 q1 q2 q3 q4 q5 q6 q7 q8 b5.2 fu b7 hb7) gX8_send_X8_saves rfl zh_X8_saves ⟨rfl, rfl⟩ ⟨Nat.le_of_ble_eq_true rfl, Nat.le_of_ble_eq_true rfl⟩ rfl rfl rfl (Nat.le_of_ble_eq_true rfl) ⟨Nat.le_of_ble_eq_true rfl, Nat.le_of_ble_eq_true rfl⟩ [0, 1, 2, 3, 4, 5, 6, 7, 8] (by decide) rfl rfl dX8_send_39) rfl rfl ?_
      refine zg_aload_n X dX8_send_42 rfl 0 rfl ?_
      refine zg_get (C := RX8) (T := TX8) (N := 17) X 0 0 hiX8 rfl rfl (by decide) hw1 rfl dX8_send_43 ?_
      refine zg_sipush (v := 201) X dX8_send_46 (by decide) ?_
      refine zg_iald X 1 rfl (by unfold vp_in; decide) dX8_send_49 ?_
      obtain ⟨x8, ex8, hf⟩ := pl_l hf
      refine zg_topi ex8 ?_
      refine zg_istore_n (L' := [(1, .int x8), (0, .ref q0)]) X dX8_send_50 rfl (by decide) rfl ?_
      refine zg_iconst (v := 0) X dX8_send_51 (by decide) ?_
      refine zg_istore_n (L' := [(2, .int 0), (1, .int x8), (0, .ref q0)]) X dX8_send_52 rfl (by decide) rfl ?_
      refine zg_loc [2, 1, 0] rfl ?_
      exact hL53 fu x8 0 b7.1 b7.2.1 b7.2.2.1 b7.2.2.2.1 b7.2.2.2.2.1 b7.2.2.2.2.2.1 b7.2.2.2.2.2.2.1 b7.2.2.2.2.2.2.2.1 b7.2.2.2.2.2.2.2.2.1 b7.2.2.2.2.2.2.2.2.2.1 b7.2.2.2.2.2.2.2.2.2.2.1 b7.2.2.2.2.2.2.2.2.2.2.2.1 b7.2.2.2.2.2.2.2.2.2.2.2.2.1 b7.2.2.2.2.2.2.2.2.2.2.2.2.2.1 b7.2.2.2.2.2.2.2.2.2.2.2.2.2.2.1 b7.2.2.2.2.2.2.2.2.2.2.2.2.2.2.2.1 b7.2.2.2.2.2.2.2.2.2.2.2.2.2.2.2.2 hf
    · have hf := pl_f c6 hf
      refine zg_iconst (v := 0) X dX8_send_36 (by decide) ?_
      have hf := Option.some.inj hf
      subst hf
      exact zg_iret X hF rfl rfl () rfl rfl (Nat.le_of_ble_eq_true rfl) (Nat.le_of_ble_eq_true rfl) dX8_send_37
  have hb25 : ∀ (w0 : (Nat → Int32)) (w1 : (Nat → Int32)) (w2 : Int32) (w3 : (Nat → Int32)) (w4 : Int32) (w5 : Int32) (w6 : (Nat → Int32)) (w7 : Int32) (w8 : (Nat → Int32)) (w9 : (Nat → Int32)) (w10 : (Nat → Int32)) (w11 : Int32) (w12 : Int32) (w13 : Int32) (w14 : Int32) (w15 : (Nat → Int32)) (w16 : Int32), zf_X8_send_b25 fu v0 w0 w1 w2 w3 w4 w5 w6 w7 w8 w9 w10 w11 w12 w13 w14 w15 w16 = some res → zgGd G Z ({ frames := 4, cells := 0, slots := 0, locals := 86 } : Room) 0 0 5 [(q0, .inr (7, [.ref q1, .ref q2, .int w2, .ref q3, .int w4, .int w5, .ref q4, .int w7, .ref q5, .ref q6, .ref q7, .int w11, .int w12, .int w13, .int w14, .ref q8, .int w16])), (q1, .inl (G.2.2.1, 946, .inl w0)), (q2, .inl (G.2.2.1, 5676, .inl w1)), (q3, .inl (G.2.2.1, 60, .inl w3)), (q4, .inl (G.2.2.1, 201, .inl w6)), (q5, .inl (G.2.2.1, 201, .inl w8)), (q6, .inl (G.2.2.1, 201, .inl w9)), (q7, .inl (G.2.2.1, 201, .inl w10)), (q8, .inl (G.2.2.1, 201, .inl w15))] 25 [(0, .ref q0)] [.ref q0] := by
    intro w0 w1 w2 w3 w4 w5 w6 w7 w8 w9 w10 w11 w12 w13 w14 w15 w16 hf
    unfold zf_X8_send_b25 at hf
    refine zg_iconst (v := 1) X dX8_send_25 (by decide) ?_
    refine zg_goto (tgt := 30) X dX8_send_26 (by decide) ?_
    exact hb30 1 w0 w1 w2 w3 w4 w5 w6 w7 w8 w9 w10 w11 w12 w13 w14 w15 w16 hf
  unfold zf_X8_send at hf
  refine zg_aload_n X dX8_send_0 rfl 0 rfl ?_
  refine zg_aload_n X dX8_send_1 rfl 0 rfl ?_
  refine zg_get (C := RX8) (T := TX8) (N := 17) X 0 4 hiX8 rfl rfl (by decide) hw0 rfl dX8_send_2 ?_
  refine zg_if_eq (tgt := 25) X dX8_send_5 (by decide) (fun c1 => ?_) (fun c1 => ?_)
  · have hf := pl_t c1 hf
    exact hb25 v0.1 v0.2.1 v0.2.2.1 v0.2.2.2.1 v0.2.2.2.2.1 v0.2.2.2.2.2.1 v0.2.2.2.2.2.2.1 v0.2.2.2.2.2.2.2.1 v0.2.2.2.2.2.2.2.2.1 v0.2.2.2.2.2.2.2.2.2.1 v0.2.2.2.2.2.2.2.2.2.2.1 v0.2.2.2.2.2.2.2.2.2.2.2.1 v0.2.2.2.2.2.2.2.2.2.2.2.2.1 v0.2.2.2.2.2.2.2.2.2.2.2.2.2.1 v0.2.2.2.2.2.2.2.2.2.2.2.2.2.2.1 v0.2.2.2.2.2.2.2.2.2.2.2.2.2.2.2.1 v0.2.2.2.2.2.2.2.2.2.2.2.2.2.2.2.2 hf
  · have hf := pl_f c1 hf
    refine zg_aload_n X dX8_send_8 rfl 0 rfl ?_
    refine zg_get (C := RX8) (T := TX8) (N := 17) X 0 0 hiX8 rfl rfl (by decide) hw1 rfl dX8_send_9 ?_
    refine zg_iconst (v := 0) X dX8_send_12 (by decide) ?_
    refine zg_iald X 1 rfl (by unfold vp_in; decide) dX8_send_13 ?_
    obtain ⟨x2, ex2, hf⟩ := pl_l hf
    refine zg_topi ex2 ?_
    refine zg_aload_n X dX8_send_14 rfl 0 rfl ?_
    obtain ⟨b3, hb3, hf⟩ := pl_b hf
    refine zg_cP1 X (zg_runV X (zc_X8_needed G q0 q1 q2 q3 q4 q5 q6 q7 q8 v0 fu b3 hb3) gX8_send_X8_needed rfl zh_X8_needed ⟨rfl, rfl⟩ ⟨Nat.le_of_ble_eq_true rfl, Nat.le_of_ble_eq_true rfl⟩ rfl rfl rfl (Nat.le_of_ble_eq_true rfl) ⟨Nat.le_of_ble_eq_true rfl, Nat.le_of_ble_eq_true rfl⟩ [0, 1, 2, 3, 4, 5, 6, 7, 8] (by decide) rfl rfl dX8_send_15) rfl ?_
    refine zg_iadd X dX8_send_18 ?_
    refine zg_sipush (v := 200) X dX8_send_19 (by decide) ?_
    refine zg_icmp_le (tgt := 29) X dX8_send_22 (by decide) (fun c4 => ?_) (fun c4 => ?_)
    · have hf := pl_t c4 hf
      refine zg_iconst (v := 0) X dX8_send_29 (by decide) ?_
      exact hb30 0 v0.1 v0.2.1 v0.2.2.1 v0.2.2.2.1 v0.2.2.2.2.1 v0.2.2.2.2.2.1 v0.2.2.2.2.2.2.1 v0.2.2.2.2.2.2.2.1 v0.2.2.2.2.2.2.2.2.1 v0.2.2.2.2.2.2.2.2.2.1 v0.2.2.2.2.2.2.2.2.2.2.1 v0.2.2.2.2.2.2.2.2.2.2.2.1 v0.2.2.2.2.2.2.2.2.2.2.2.2.1 v0.2.2.2.2.2.2.2.2.2.2.2.2.2.1 v0.2.2.2.2.2.2.2.2.2.2.2.2.2.2.1 v0.2.2.2.2.2.2.2.2.2.2.2.2.2.2.2.1 v0.2.2.2.2.2.2.2.2.2.2.2.2.2.2.2.2 hf
    · have hf := pl_f c4 hf
      exact hb25 v0.1 v0.2.1 v0.2.2.1 v0.2.2.2.1 v0.2.2.2.2.1 v0.2.2.2.2.2.1 v0.2.2.2.2.2.2.1 v0.2.2.2.2.2.2.2.1 v0.2.2.2.2.2.2.2.2.1 v0.2.2.2.2.2.2.2.2.2.1 v0.2.2.2.2.2.2.2.2.2.2.1 v0.2.2.2.2.2.2.2.2.2.2.2.1 v0.2.2.2.2.2.2.2.2.2.2.2.2.1 v0.2.2.2.2.2.2.2.2.2.2.2.2.2.1 v0.2.2.2.2.2.2.2.2.2.2.2.2.2.2.1 v0.2.2.2.2.2.2.2.2.2.2.2.2.2.2.2.1 v0.2.2.2.2.2.2.2.2.2.2.2.2.2.2.2.2 hf
