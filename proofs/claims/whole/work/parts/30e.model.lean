theorem zh_X8_receiverShift : yX8_receiverShift.cls = RX8 ∧ yX8_receiverShift.cls ≠ "java/lang/invoke/MethodHandle" ∧ yX8_receiverShift.cls ≠ "java/lang/invoke/VarHandle" ∧ (parseMethodDescriptor yX8_receiverShift.desc).map (fun d => d.parameters.length) = some 0 := by decide +kernel
set_option maxHeartbeats 8000000 in
set_option maxRecDepth 100000 in
theorem zc_X8_receiverShift (G : zgG) (q0 q1 q2 q3 q4 q5 q6 q7 q8 : Nat) (v0 : zModel) (fu : Nat) (res : (Int32 × zModel)) (hf : zf_X8_receiverShift fu v0 = some res) : zgCt G yX8_receiverShift wsX8_receiverShift ({ frames := 4, cells := 0, slots := 0, locals := 98 } : Room) [.ref q0] [(q0, .inr (7, [.ref q1, .ref q2, .int v0.2.2.1, .ref q3, .int v0.2.2.2.2.1, .int v0.2.2.2.2.2.1, .ref q4, .int v0.2.2.2.2.2.2.2.1, .ref q5, .ref q6, .ref q7, .int v0.2.2.2.2.2.2.2.2.2.2.2.1, .int v0.2.2.2.2.2.2.2.2.2.2.2.2.1, .int v0.2.2.2.2.2.2.2.2.2.2.2.2.2.1, .int v0.2.2.2.2.2.2.2.2.2.2.2.2.2.2.1, .ref q8, .int v0.2.2.2.2.2.2.2.2.2.2.2.2.2.2.2.2])), (q1, .inl (G.2.2.1, 946, .inl v0.1)), (q2, .inl (G.2.2.1, 5676, .inl v0.2.1)), (q3, .inl (G.2.2.1, 60, .inl v0.2.2.2.1)), (q4, .inl (G.2.2.1, 201, .inl v0.2.2.2.2.2.2.1)), (q5, .inl (G.2.2.1, 201, .inl v0.2.2.2.2.2.2.2.2.1)), (q6, .inl (G.2.2.1, 201, .inl v0.2.2.2.2.2.2.2.2.2.1)), (q7, .inl (G.2.2.1, 201, .inl v0.2.2.2.2.2.2.2.2.2.2.1)), (q8, .inl (G.2.2.1, 201, .inl v0.2.2.2.2.2.2.2.2.2.2.2.2.2.2.2.1))] (fun _ : Unit => some (.int res.1)) (fun _ => [(q0, .inr (7, [.ref q1, .ref q2, .int res.2.2.2.1, .ref q3, .int res.2.2.2.2.2.1, .int res.2.2.2.2.2.2.1, .ref q4, .int res.2.2.2.2.2.2.2.2.1, .ref q5, .ref q6, .ref q7, .int res.2.2.2.2.2.2.2.2.2.2.2.2.1, .int res.2.2.2.2.2.2.2.2.2.2.2.2.2.1, .int res.2.2.2.2.2.2.2.2.2.2.2.2.2.2.1, .int res.2.2.2.2.2.2.2.2.2.2.2.2.2.2.2.1, .ref q8, .int res.2.2.2.2.2.2.2.2.2.2.2.2.2.2.2.2.2])), (q1, .inl (G.2.2.1, 946, .inl res.2.1)), (q2, .inl (G.2.2.1, 5676, .inl res.2.2.1)), (q3, .inl (G.2.2.1, 60, .inl res.2.2.2.2.1)), (q4, .inl (G.2.2.1, 201, .inl res.2.2.2.2.2.2.2.1)), (q5, .inl (G.2.2.1, 201, .inl res.2.2.2.2.2.2.2.2.2.1)), (q6, .inl (G.2.2.1, 201, .inl res.2.2.2.2.2.2.2.2.2.2.1)), (q7, .inl (G.2.2.1, 201, .inl res.2.2.2.2.2.2.2.2.2.2.2.1)), (q8, .inl (G.2.2.1, 201, .inl res.2.2.2.2.2.2.2.2.2.2.2.2.2.2.2.2.1))]) 0 0 := by
  have hw0 : Cond.fieldLink RX8 38 "TelexReceiverModel" "thrown" "I" ∈ wsX8_receiverShift := by decide +kernel
  have hw1 : Cond.fieldLink RX8 91 "TelexReceiverModel" "shift" "I" ∈ wsX8_receiverShift := by decide +kernel
  have hiX8 : ∀ w ∈ u_ws RX8 TX8 17, w ∈ wsX8_receiverShift := by decide +kernel
  refine zg_of (own := RX8) (cc := cX8_receiverShift) (nL := 1) (ret := (some .int)) (by decide +kernel) rfl rfl (Nat.le_of_ble_eq_true rfl) (fun Z X hF => ?_)
  show zgGd G Z _ 0 0 1 _ 0 [(0, .ref q0)] []
  unfold zf_X8_receiverShift at hf
  refine zg_aload_n X dX8_receiverShift_0 rfl 0 rfl ?_
  refine zg_iconst (v := 0) X dX8_receiverShift_1 (by decide) ?_
  refine zg_put (C := RX8) (T := TX8) (N := 17) (ty := .int) (ws' := [(q0, .inr (7, [.ref q1, .ref q2, .int v0.2.2.1, .ref q3, .int v0.2.2.2.2.1, .int 0, .ref q4, .int v0.2.2.2.2.2.2.2.1, .ref q5, .ref q6, .ref q7, .int v0.2.2.2.2.2.2.2.2.2.2.2.1, .int v0.2.2.2.2.2.2.2.2.2.2.2.2.1, .int v0.2.2.2.2.2.2.2.2.2.2.2.2.2.1, .int v0.2.2.2.2.2.2.2.2.2.2.2.2.2.2.1, .ref q8, .int v0.2.2.2.2.2.2.2.2.2.2.2.2.2.2.2.2])), (q1, .inl (G.2.2.1, 946, .inl v0.1)), (q2, .inl (G.2.2.1, 5676, .inl v0.2.1)), (q3, .inl (G.2.2.1, 60, .inl v0.2.2.2.1)), (q4, .inl (G.2.2.1, 201, .inl v0.2.2.2.2.2.2.1)), (q5, .inl (G.2.2.1, 201, .inl v0.2.2.2.2.2.2.2.2.1)), (q6, .inl (G.2.2.1, 201, .inl v0.2.2.2.2.2.2.2.2.2.1)), (q7, .inl (G.2.2.1, 201, .inl v0.2.2.2.2.2.2.2.2.2.2.1)), (q8, .inl (G.2.2.1, 201, .inl v0.2.2.2.2.2.2.2.2.2.2.2.2.2.2.2.1))]) X 0 5 hiX8 tyX8 tyX8_ok nmX8 rfl rfl (by decide) hw0 rfl (by decide +kernel) rfl rfl (Nat.le_of_ble_eq_true rfl) rfl dX8_receiverShift_2 ?_
  refine zg_aload_n X dX8_receiverShift_5 rfl 0 rfl ?_
  refine zg_iconst (v := (-1)) X dX8_receiverShift_6 (by decide) ?_
  refine zg_iconst (v := 0) X dX8_receiverShift_7 (by decide) ?_
  obtain ⟨b1, hb1, hf⟩ := pl_b hf
  refine zg_cU0 (ws2 := [(q0, .inr (7, [.ref q1, .ref q2, .int b1.2.2.1, .ref q3, .int b1.2.2.2.2.1, .int b1.2.2.2.2.2.1, .ref q4, .int b1.2.2.2.2.2.2.2.1, .ref q5, .ref q6, .ref q7, .int b1.2.2.2.2.2.2.2.2.2.2.2.1, .int b1.2.2.2.2.2.2.2.2.2.2.2.2.1, .int b1.2.2.2.2.2.2.2.2.2.2.2.2.2.1, .int b1.2.2.2.2.2.2.2.2.2.2.2.2.2.2.1, .ref q8, .int b1.2.2.2.2.2.2.2.2.2.2.2.2.2.2.2.2])), (q1, .inl (G.2.2.1, 946, .inl b1.1)), (q2, .inl (G.2.2.1, 5676, .inl b1.2.1)), (q3, .inl (G.2.2.1, 60, .inl b1.2.2.2.1)), (q4, .inl (G.2.2.1, 201, .inl b1.2.2.2.2.2.2.1)), (q5, .inl (G.2.2.1, 201, .inl b1.2.2.2.2.2.2.2.2.1)), (q6, .inl (G.2.2.1, 201, .inl b1.2.2.2.2.2.2.2.2.2.1)), (q7, .inl (G.2.2.1, 201, .inl b1.2.2.2.2.2.2.2.2.2.2.1)), (q8, .inl (G.2.2.1, 201, .inl b1.2.2.2.2.2.2.2.2.2.2.2.2.2.2.2.1))]) X (zg_runV X (zc_X8_decodes G q0 q1 q2 q3 q4 q5 q6 q7 q8 (v0.1, v0.2.1, v0.2.2.1, v0.2.2.2.1, v0.2.2.2.2.1, 0, v0.2.2.2.2.2.2.1, v0.2.2.2.2.2.2.2.1, v0.2.2.2.2.2.2.2.2.1, v0.2.2.2.2.2.2.2.2.2.1, v0.2.2.2.2.2.2.2.2.2.2.1, v0.2.2.2.2.2.2.2.2.2.2.2.1, v0.2.2.2.2.2.2.2.2.2.2.2.2.1, v0.2.2.2.2.2.2.2.2.2.2.2.2.2.1, v0.2.2.2.2.2.2.2.2.2.2.2.2.2.2.1, v0.2.2.2.2.2.2.2.2.2.2.2.2.2.2.2.1, v0.2.2.2.2.2.2.2.2.2.2.2.2.2.2.2.2) (-1) 0 fu b1 hb1) gX8_receiverShift_X8_decodes rfl zh_X8_decodes ⟨rfl, rfl⟩ ⟨Nat.le_of_ble_eq_true rfl, Nat.le_of_ble_eq_true rfl⟩ rfl rfl rfl (Nat.le_of_ble_eq_true rfl) ⟨Nat.le_of_ble_eq_true rfl, Nat.le_of_ble_eq_true rfl⟩ [0, 1, 2, 3, 4, 5, 6, 7, 8] (by decide) rfl rfl dX8_receiverShift_8) rfl rfl ?_
  refine zg_aload_n X dX8_receiverShift_11 rfl 0 rfl ?_
  refine zg_get (C := RX8) (T := TX8) (N := 17) X 0 14 hiX8 rfl rfl (by decide) hw1 rfl dX8_receiverShift_12 ?_
  have hf := Option.some.inj hf
  subst hf
  exact zg_iret X hF rfl rfl () rfl rfl (Nat.le_of_ble_eq_true rfl) (Nat.le_of_ble_eq_true rfl) dX8_receiverShift_15
theorem zh_X8_wrong : yX8_wrong.cls = RX8 ∧ yX8_wrong.cls ≠ "java/lang/invoke/MethodHandle" ∧ yX8_wrong.cls ≠ "java/lang/invoke/VarHandle" ∧ (parseMethodDescriptor yX8_wrong.desc).map (fun d => d.parameters.length) = some 0 := by decide +kernel
set_option maxHeartbeats 8000000 in
set_option maxRecDepth 100000 in
theorem zc_X8_wrong (G : zgG) (q0 q1 q2 q3 q4 q5 q6 q7 q8 : Nat) (v0 : zModel) (fu : Nat) (res : Int32) (hf : zf_X8_wrong fu v0 = some res) : zgCt G yX8_wrong wsX8_wrong ({ frames := 0, cells := 0, slots := 0, locals := 0 } : Room) [.ref q0] [(q0, .inr (7, [.ref q1, .ref q2, .int v0.2.2.1, .ref q3, .int v0.2.2.2.2.1, .int v0.2.2.2.2.2.1, .ref q4, .int v0.2.2.2.2.2.2.2.1, .ref q5, .ref q6, .ref q7, .int v0.2.2.2.2.2.2.2.2.2.2.2.1, .int v0.2.2.2.2.2.2.2.2.2.2.2.2.1, .int v0.2.2.2.2.2.2.2.2.2.2.2.2.2.1, .int v0.2.2.2.2.2.2.2.2.2.2.2.2.2.2.1, .ref q8, .int v0.2.2.2.2.2.2.2.2.2.2.2.2.2.2.2.2])), (q1, .inl (G.2.2.1, 946, .inl v0.1)), (q2, .inl (G.2.2.1, 5676, .inl v0.2.1)), (q3, .inl (G.2.2.1, 60, .inl v0.2.2.2.1)), (q4, .inl (G.2.2.1, 201, .inl v0.2.2.2.2.2.2.1)), (q5, .inl (G.2.2.1, 201, .inl v0.2.2.2.2.2.2.2.2.1)), (q6, .inl (G.2.2.1, 201, .inl v0.2.2.2.2.2.2.2.2.2.1)), (q7, .inl (G.2.2.1, 201, .inl v0.2.2.2.2.2.2.2.2.2.2.1)), (q8, .inl (G.2.2.1, 201, .inl v0.2.2.2.2.2.2.2.2.2.2.2.2.2.2.2.1))] (fun _ : Unit => some (.int res)) (fun _ => [(q0, .inr (7, [.ref q1, .ref q2, .int v0.2.2.1, .ref q3, .int v0.2.2.2.2.1, .int v0.2.2.2.2.2.1, .ref q4, .int v0.2.2.2.2.2.2.2.1, .ref q5, .ref q6, .ref q7, .int v0.2.2.2.2.2.2.2.2.2.2.2.1, .int v0.2.2.2.2.2.2.2.2.2.2.2.2.1, .int v0.2.2.2.2.2.2.2.2.2.2.2.2.2.1, .int v0.2.2.2.2.2.2.2.2.2.2.2.2.2.2.1, .ref q8, .int v0.2.2.2.2.2.2.2.2.2.2.2.2.2.2.2.2])), (q1, .inl (G.2.2.1, 946, .inl v0.1)), (q2, .inl (G.2.2.1, 5676, .inl v0.2.1)), (q3, .inl (G.2.2.1, 60, .inl v0.2.2.2.1)), (q4, .inl (G.2.2.1, 201, .inl v0.2.2.2.2.2.2.1)), (q5, .inl (G.2.2.1, 201, .inl v0.2.2.2.2.2.2.2.2.1)), (q6, .inl (G.2.2.1, 201, .inl v0.2.2.2.2.2.2.2.2.2.1)), (q7, .inl (G.2.2.1, 201, .inl v0.2.2.2.2.2.2.2.2.2.2.1)), (q8, .inl (G.2.2.1, 201, .inl v0.2.2.2.2.2.2.2.2.2.2.2.2.2.2.2.1))]) 0 0 := by
  have hw0 : Cond.fieldLink RX8 88 "TelexReceiverModel" "printed" "I" ∈ wsX8_wrong := by decide +kernel
  have hw1 : Cond.fieldLink RX8 7 "TelexReceiverModel" "s" "[I" ∈ wsX8_wrong := by decide +kernel
  have hw2 : Cond.fieldLink RX8 19 "TelexReceiverModel" "paper" "[I" ∈ wsX8_wrong := by decide +kernel
  have hiX8 : ∀ w ∈ u_ws RX8 TX8 17, w ∈ wsX8_wrong := by decide +kernel
  refine zg_of (own := RX8) (cc := cX8_wrong) (nL := 3) (ret := (some .int)) (by decide +kernel) rfl rfl (Nat.le_of_ble_eq_true rfl) (fun Z X hF => ?_)
  show zgGd G Z _ 0 0 3 _ 0 [(0, .ref q0)] []
  have hL4 : ∀ (n : Nat) (y1 : Int32) (y2 : Int32), zf_X8_wrong_L4 fu v0 n y1 y2 = some res → zgGd G Z ({ frames := 0, cells := 0, slots := 0, locals := 0 } : Room) 0 0 3 [(q0, .inr (7, [.ref q1, .ref q2, .int v0.2.2.1, .ref q3, .int v0.2.2.2.2.1, .int v0.2.2.2.2.2.1, .ref q4, .int v0.2.2.2.2.2.2.2.1, .ref q5, .ref q6, .ref q7, .int v0.2.2.2.2.2.2.2.2.2.2.2.1, .int v0.2.2.2.2.2.2.2.2.2.2.2.2.1, .int v0.2.2.2.2.2.2.2.2.2.2.2.2.2.1, .int v0.2.2.2.2.2.2.2.2.2.2.2.2.2.2.1, .ref q8, .int v0.2.2.2.2.2.2.2.2.2.2.2.2.2.2.2.2])), (q1, .inl (G.2.2.1, 946, .inl v0.1)), (q2, .inl (G.2.2.1, 5676, .inl v0.2.1)), (q3, .inl (G.2.2.1, 60, .inl v0.2.2.2.1)), (q4, .inl (G.2.2.1, 201, .inl v0.2.2.2.2.2.2.1)), (q5, .inl (G.2.2.1, 201, .inl v0.2.2.2.2.2.2.2.2.1)), (q6, .inl (G.2.2.1, 201, .inl v0.2.2.2.2.2.2.2.2.2.1)), (q7, .inl (G.2.2.1, 201, .inl v0.2.2.2.2.2.2.2.2.2.2.1)), (q8, .inl (G.2.2.1, 201, .inl v0.2.2.2.2.2.2.2.2.2.2.2.2.2.2.2.1))] 4 [(0, .ref q0), (1, .int y1), (2, .int y2)] [] := by
    intro n
    induction n with
    | zero =>
      intro y1 y2 hf
      rw [zf_X8_wrong_L4] at hf
      cases hf
    | succ n4 ih4 =>
      have hb69 : ∀ (y2 : Int32) (z0 : Int32) (z1 : Int32), zf_X8_wrong_b69 fu v0 (zf_X8_wrong_L4 fu v0 n4) y2 z0 z1 = some res → zgGd G Z ({ frames := 0, cells := 0, slots := 0, locals := 0 } : Room) 0 0 3 [(q0, .inr (7, [.ref q1, .ref q2, .int v0.2.2.1, .ref q3, .int v0.2.2.2.2.1, .int v0.2.2.2.2.2.1, .ref q4, .int v0.2.2.2.2.2.2.2.1, .ref q5, .ref q6, .ref q7, .int v0.2.2.2.2.2.2.2.2.2.2.2.1, .int v0.2.2.2.2.2.2.2.2.2.2.2.2.1, .int v0.2.2.2.2.2.2.2.2.2.2.2.2.2.1, .int v0.2.2.2.2.2.2.2.2.2.2.2.2.2.2.1, .ref q8, .int v0.2.2.2.2.2.2.2.2.2.2.2.2.2.2.2.2])), (q1, .inl (G.2.2.1, 946, .inl v0.1)), (q2, .inl (G.2.2.1, 5676, .inl v0.2.1)), (q3, .inl (G.2.2.1, 60, .inl v0.2.2.2.1)), (q4, .inl (G.2.2.1, 201, .inl v0.2.2.2.2.2.2.1)), (q5, .inl (G.2.2.1, 201, .inl v0.2.2.2.2.2.2.2.2.1)), (q6, .inl (G.2.2.1, 201, .inl v0.2.2.2.2.2.2.2.2.2.1)), (q7, .inl (G.2.2.1, 201, .inl v0.2.2.2.2.2.2.2.2.2.2.1)), (q8, .inl (G.2.2.1, 201, .inl v0.2.2.2.2.2.2.2.2.2.2.2.2.2.2.2.1))] 69 [(0, .ref q0), (2, .int y2)] [.int z1, .int z0] := by
        intro y2 z0 z1 hf
        unfold zf_X8_wrong_b69 at hf
        refine zg_iadd X dX8_wrong_69 ?_
        obtain ⟨x11, ex11, hf⟩ := pl_l hf
        refine zg_topi ex11 ?_
        refine zg_istore_n (L' := [(1, .int x11), (0, .ref q0), (2, .int y2)]) X dX8_wrong_70 rfl (by decide) rfl ?_
        obtain ⟨x12, ex12, hf⟩ := pl_l hf
        refine zg_iinc (v := x12) (L' := [(2, .int x12), (1, .int x11), (0, .ref q0)]) X dX8_wrong_71 (j := 2) rfl (by rw [ex12]; rfl) (by decide) rfl ?_
        refine zg_goto (tgt := 4) X dX8_wrong_74 (by decide) ?_
        refine zg_loc [2, 1, 0] rfl ?_
        exact ih4 x11 x12 hf
      have hb64 : ∀ (y2 : Int32) (z0 : Int32), zf_X8_wrong_b64 fu v0 (zf_X8_wrong_L4 fu v0 n4) y2 z0 = some res → zgGd G Z ({ frames := 0, cells := 0, slots := 0, locals := 0 } : Room) 0 0 3 [(q0, .inr (7, [.ref q1, .ref q2, .int v0.2.2.1, .ref q3, .int v0.2.2.2.2.1, .int v0.2.2.2.2.2.1, .ref q4, .int v0.2.2.2.2.2.2.2.1, .ref q5, .ref q6, .ref q7, .int v0.2.2.2.2.2.2.2.2.2.2.2.1, .int v0.2.2.2.2.2.2.2.2.2.2.2.2.1, .int v0.2.2.2.2.2.2.2.2.2.2.2.2.2.1, .int v0.2.2.2.2.2.2.2.2.2.2.2.2.2.2.1, .ref q8, .int v0.2.2.2.2.2.2.2.2.2.2.2.2.2.2.2.2])), (q1, .inl (G.2.2.1, 946, .inl v0.1)), (q2, .inl (G.2.2.1, 5676, .inl v0.2.1)), (q3, .inl (G.2.2.1, 60, .inl v0.2.2.2.1)), (q4, .inl (G.2.2.1, 201, .inl v0.2.2.2.2.2.2.1)), (q5, .inl (G.2.2.1, 201, .inl v0.2.2.2.2.2.2.2.2.1)), (q6, .inl (G.2.2.1, 201, .inl v0.2.2.2.2.2.2.2.2.2.1)), (q7, .inl (G.2.2.1, 201, .inl v0.2.2.2.2.2.2.2.2.2.2.1)), (q8, .inl (G.2.2.1, 201, .inl v0.2.2.2.2.2.2.2.2.2.2.2.2.2.2.2.1))] 64 [(0, .ref q0), (2, .int y2)] [.int z0] := by
        intro y2 z0 hf
        unfold zf_X8_wrong_b64 at hf
        refine zg_iconst (v := 1) X dX8_wrong_64 (by decide) ?_
        refine zg_goto (tgt := 69) X dX8_wrong_65 (by decide) ?_
        exact hb69 y2 z0 1 hf
      have hb24 : ∀ (y1 : Int32) (y2 : Int32), zf_X8_wrong_b24 fu v0 (zf_X8_wrong_L4 fu v0 n4) y1 y2 = some res → zgGd G Z ({ frames := 0, cells := 0, slots := 0, locals := 0 } : Room) 0 0 3 [(q0, .inr (7, [.ref q1, .ref q2, .int v0.2.2.1, .ref q3, .int v0.2.2.2.2.1, .int v0.2.2.2.2.2.1, .ref q4, .int v0.2.2.2.2.2.2.2.1, .ref q5, .ref q6, .ref q7, .int v0.2.2.2.2.2.2.2.2.2.2.2.1, .int v0.2.2.2.2.2.2.2.2.2.2.2.2.1, .int v0.2.2.2.2.2.2.2.2.2.2.2.2.2.1, .int v0.2.2.2.2.2.2.2.2.2.2.2.2.2.2.1, .ref q8, .int v0.2.2.2.2.2.2.2.2.2.2.2.2.2.2.2.2])), (q1, .inl (G.2.2.1, 946, .inl v0.1)), (q2, .inl (G.2.2.1, 5676, .inl v0.2.1)), (q3, .inl (G.2.2.1, 60, .inl v0.2.2.2.1)), (q4, .inl (G.2.2.1, 201, .inl v0.2.2.2.2.2.2.1)), (q5, .inl (G.2.2.1, 201, .inl v0.2.2.2.2.2.2.2.2.1)), (q6, .inl (G.2.2.1, 201, .inl v0.2.2.2.2.2.2.2.2.2.1)), (q7, .inl (G.2.2.1, 201, .inl v0.2.2.2.2.2.2.2.2.2.2.1)), (q8, .inl (G.2.2.1, 201, .inl v0.2.2.2.2.2.2.2.2.2.2.2.2.2.2.2.1))] 24 [(0, .ref q0), (1, .int y1), (2, .int y2)] [] := by
        intro y1 y2 hf
        unfold zf_X8_wrong_b24 at hf
        refine zg_iload_n X dX8_wrong_24 rfl 1 rfl ?_
        refine zg_iload_n X dX8_wrong_25 rfl 2 rfl ?_
        refine zg_aload_n X dX8_wrong_26 rfl 0 rfl ?_
        refine zg_get (C := RX8) (T := TX8) (N := 17) X 0 7 hiX8 rfl rfl (by decide) hw0 rfl dX8_wrong_27 ?_
        refine zg_icmp_ge (tgt := 64) X dX8_wrong_30 (by decide) (fun c4 => ?_) (fun c4 => ?_)
        · have hf := pl_t c4 hf
          refine zg_loc [0, 2] rfl ?_
          exact hb64 y2 y1 hf
        · have hf := pl_f c4 hf
          refine zg_iload_n X dX8_wrong_33 rfl 2 rfl ?_
          refine zg_aload_n X dX8_wrong_34 rfl 0 rfl ?_
          refine zg_get (C := RX8) (T := TX8) (N := 17) X 0 0 hiX8 rfl rfl (by decide) hw1 rfl dX8_wrong_35 ?_
          refine zg_sipush (v := 402) X dX8_wrong_38 (by decide) ?_
          refine zg_iald X 1 rfl (by unfold vp_in; decide) dX8_wrong_41 ?_
          obtain ⟨x5, ex5, hf⟩ := pl_l hf
          refine zg_topi ex5 ?_
          refine zg_icmp_ge (tgt := 64) X dX8_wrong_42 (by decide) (fun c6 => ?_) (fun c6 => ?_)
          · have hf := pl_t c6 hf
            refine zg_loc [0, 2] rfl ?_
            exact hb64 y2 y1 hf
          · have hf := pl_f c6 hf
            refine zg_aload_n X dX8_wrong_45 rfl 0 rfl ?_
            refine zg_get (C := RX8) (T := TX8) (N := 17) X 0 6 hiX8 rfl rfl (by decide) hw2 rfl dX8_wrong_46 ?_
            refine zg_iload_n X dX8_wrong_49 rfl 2 rfl ?_
            obtain ⟨hin, hf⟩ := pl_in hf
            refine zg_iald X 4 rfl hin dX8_wrong_50 ?_
            obtain ⟨x7, ex7, hf⟩ := pl_l hf
            refine zg_topi ex7 ?_
            refine zg_aload_n X dX8_wrong_51 rfl 0 rfl ?_
            refine zg_get (C := RX8) (T := TX8) (N := 17) X 0 0 hiX8 rfl rfl (by decide) hw1 rfl dX8_wrong_52 ?_
            refine zg_sipush (v := 403) X dX8_wrong_55 (by decide) ?_
            refine zg_iload_n X dX8_wrong_58 rfl 2 rfl ?_
            refine zg_iadd X dX8_wrong_59 ?_
            obtain ⟨x8, ex8, hf⟩ := pl_l hf
            refine zg_topi ex8 ?_
            obtain ⟨hin, hf⟩ := pl_in hf
            refine zg_iald X 1 rfl hin dX8_wrong_60 ?_
            obtain ⟨x9, ex9, hf⟩ := pl_l hf
            refine zg_topi ex9 ?_
            refine zg_icmp_eq (tgt := 68) X dX8_wrong_61 (by decide) (fun c10 => ?_) (fun c10 => ?_)
            · have hf := pl_t c10 hf
              refine zg_iconst (v := 0) X dX8_wrong_68 (by decide) ?_
              refine zg_loc [0, 2] rfl ?_
              exact hb69 y2 y1 0 hf
            · have hf := pl_f c10 hf
              refine zg_loc [0, 2] rfl ?_
              exact hb64 y2 y1 hf
      intro y1 y2 hf
      rw [zf_X8_wrong_L4] at hf
      refine zg_iload_n X dX8_wrong_4 rfl 2 rfl ?_
      refine zg_aload_n X dX8_wrong_5 rfl 0 rfl ?_
      refine zg_get (C := RX8) (T := TX8) (N := 17) X 0 7 hiX8 rfl rfl (by decide) hw0 rfl dX8_wrong_6 ?_
      refine zg_icmp_lt (tgt := 24) X dX8_wrong_9 (by decide) (fun c1 => ?_) (fun c1 => ?_)
      · have hf := pl_t c1 hf
        exact hb24 y1 y2 hf
      · have hf := pl_f c1 hf
        refine zg_iload_n X dX8_wrong_12 rfl 2 rfl ?_
        refine zg_aload_n X dX8_wrong_13 rfl 0 rfl ?_
        refine zg_get (C := RX8) (T := TX8) (N := 17) X 0 0 hiX8 rfl rfl (by decide) hw1 rfl dX8_wrong_14 ?_
        refine zg_sipush (v := 402) X dX8_wrong_17 (by decide) ?_
        refine zg_iald X 1 rfl (by unfold vp_in; decide) dX8_wrong_20 ?_
        obtain ⟨x2, ex2, hf⟩ := pl_l hf
        refine zg_topi ex2 ?_
        refine zg_icmp_ge (tgt := 77) X dX8_wrong_21 (by decide) (fun c3 => ?_) (fun c3 => ?_)
        · have hf := pl_t c3 hf
          refine zg_iload_n X dX8_wrong_77 rfl 1 rfl ?_
          have hf := Option.some.inj hf
          subst hf
          exact zg_iret X hF rfl rfl () rfl rfl (Nat.le_of_ble_eq_true rfl) (Nat.le_of_ble_eq_true rfl) dX8_wrong_78
        · have hf := pl_f c3 hf
          exact hb24 y1 y2 hf
  unfold zf_X8_wrong at hf
  refine zg_iconst (v := 0) X dX8_wrong_0 (by decide) ?_
  refine zg_istore_n (L' := [(1, .int 0), (0, .ref q0)]) X dX8_wrong_1 rfl (by decide) rfl ?_
  refine zg_iconst (v := 0) X dX8_wrong_2 (by decide) ?_
  refine zg_istore_n (L' := [(2, .int 0), (1, .int 0), (0, .ref q0)]) X dX8_wrong_3 rfl (by decide) rfl ?_
  refine zg_loc [2, 1, 0] rfl ?_
  exact hL4 fu 0 0 hf
theorem zh_X8_wrongCharacters : yX8_wrongCharacters.cls = RX8 ∧ yX8_wrongCharacters.cls ≠ "java/lang/invoke/MethodHandle" ∧ yX8_wrongCharacters.cls ≠ "java/lang/invoke/VarHandle" ∧ (parseMethodDescriptor yX8_wrongCharacters.desc).map (fun d => d.parameters.length) = some 0 := by decide +kernel
set_option maxHeartbeats 8000000 in
set_option maxRecDepth 100000 in
theorem zc_X8_wrongCharacters (G : zgG) (q0 q1 q2 q3 q4 q5 q6 q7 q8 : Nat) (v0 : zModel) (fu : Nat) (res : (Int32 × zModel)) (hf : zf_X8_wrongCharacters fu v0 = some res) : zgCt G yX8_wrongCharacters wsX8_wrongCharacters ({ frames := 4, cells := 0, slots := 0, locals := 98 } : Room) [.ref q0] [(q0, .inr (7, [.ref q1, .ref q2, .int v0.2.2.1, .ref q3, .int v0.2.2.2.2.1, .int v0.2.2.2.2.2.1, .ref q4, .int v0.2.2.2.2.2.2.2.1, .ref q5, .ref q6, .ref q7, .int v0.2.2.2.2.2.2.2.2.2.2.2.1, .int v0.2.2.2.2.2.2.2.2.2.2.2.2.1, .int v0.2.2.2.2.2.2.2.2.2.2.2.2.2.1, .int v0.2.2.2.2.2.2.2.2.2.2.2.2.2.2.1, .ref q8, .int v0.2.2.2.2.2.2.2.2.2.2.2.2.2.2.2.2])), (q1, .inl (G.2.2.1, 946, .inl v0.1)), (q2, .inl (G.2.2.1, 5676, .inl v0.2.1)), (q3, .inl (G.2.2.1, 60, .inl v0.2.2.2.1)), (q4, .inl (G.2.2.1, 201, .inl v0.2.2.2.2.2.2.1)), (q5, .inl (G.2.2.1, 201, .inl v0.2.2.2.2.2.2.2.2.1)), (q6, .inl (G.2.2.1, 201, .inl v0.2.2.2.2.2.2.2.2.2.1)), (q7, .inl (G.2.2.1, 201, .inl v0.2.2.2.2.2.2.2.2.2.2.1)), (q8, .inl (G.2.2.1, 201, .inl v0.2.2.2.2.2.2.2.2.2.2.2.2.2.2.2.1))] (fun _ : Unit => some (.int res.1)) (fun _ => [(q0, .inr (7, [.ref q1, .ref q2, .int res.2.2.2.1, .ref q3, .int res.2.2.2.2.2.1, .int res.2.2.2.2.2.2.1, .ref q4, .int res.2.2.2.2.2.2.2.2.1, .ref q5, .ref q6, .ref q7, .int res.2.2.2.2.2.2.2.2.2.2.2.2.1, .int res.2.2.2.2.2.2.2.2.2.2.2.2.2.1, .int res.2.2.2.2.2.2.2.2.2.2.2.2.2.2.1, .int res.2.2.2.2.2.2.2.2.2.2.2.2.2.2.2.1, .ref q8, .int res.2.2.2.2.2.2.2.2.2.2.2.2.2.2.2.2.2])), (q1, .inl (G.2.2.1, 946, .inl res.2.1)), (q2, .inl (G.2.2.1, 5676, .inl res.2.2.1)), (q3, .inl (G.2.2.1, 60, .inl res.2.2.2.2.1)), (q4, .inl (G.2.2.1, 201, .inl res.2.2.2.2.2.2.2.1)), (q5, .inl (G.2.2.1, 201, .inl res.2.2.2.2.2.2.2.2.2.1)), (q6, .inl (G.2.2.1, 201, .inl res.2.2.2.2.2.2.2.2.2.2.1)), (q7, .inl (G.2.2.1, 201, .inl res.2.2.2.2.2.2.2.2.2.2.2.1)), (q8, .inl (G.2.2.1, 201, .inl res.2.2.2.2.2.2.2.2.2.2.2.2.2.2.2.2.1))]) 0 0 := by
  have hw0 : Cond.fieldLink RX8 38 "TelexReceiverModel" "thrown" "I" ∈ wsX8_wrongCharacters := by decide +kernel
  have hiX8 : ∀ w ∈ u_ws RX8 TX8 17, w ∈ wsX8_wrongCharacters := by decide +kernel
  refine zg_of (own := RX8) (cc := cX8_wrongCharacters) (nL := 1) (ret := (some .int)) (by decide +kernel) rfl rfl (Nat.le_of_ble_eq_true rfl) (fun Z X hF => ?_)
  show zgGd G Z _ 0 0 1 _ 0 [(0, .ref q0)] []
  unfold zf_X8_wrongCharacters at hf
  refine zg_aload_n X dX8_wrongCharacters_0 rfl 0 rfl ?_
  refine zg_iconst (v := 0) X dX8_wrongCharacters_1 (by decide) ?_
  refine zg_put (C := RX8) (T := TX8) (N := 17) (ty := .int) (ws' := [(q0, .inr (7, [.ref q1, .ref q2, .int v0.2.2.1, .ref q3, .int v0.2.2.2.2.1, .int 0, .ref q4, .int v0.2.2.2.2.2.2.2.1, .ref q5, .ref q6, .ref q7, .int v0.2.2.2.2.2.2.2.2.2.2.2.1, .int v0.2.2.2.2.2.2.2.2.2.2.2.2.1, .int v0.2.2.2.2.2.2.2.2.2.2.2.2.2.1, .int v0.2.2.2.2.2.2.2.2.2.2.2.2.2.2.1, .ref q8, .int v0.2.2.2.2.2.2.2.2.2.2.2.2.2.2.2.2])), (q1, .inl (G.2.2.1, 946, .inl v0.1)), (q2, .inl (G.2.2.1, 5676, .inl v0.2.1)), (q3, .inl (G.2.2.1, 60, .inl v0.2.2.2.1)), (q4, .inl (G.2.2.1, 201, .inl v0.2.2.2.2.2.2.1)), (q5, .inl (G.2.2.1, 201, .inl v0.2.2.2.2.2.2.2.2.1)), (q6, .inl (G.2.2.1, 201, .inl v0.2.2.2.2.2.2.2.2.2.1)), (q7, .inl (G.2.2.1, 201, .inl v0.2.2.2.2.2.2.2.2.2.2.1)), (q8, .inl (G.2.2.1, 201, .inl v0.2.2.2.2.2.2.2.2.2.2.2.2.2.2.2.1))]) X 0 5 hiX8 tyX8 tyX8_ok nmX8 rfl rfl (by decide) hw0 rfl (by decide +kernel) rfl rfl (Nat.le_of_ble_eq_true rfl) rfl dX8_wrongCharacters_2 ?_
  refine zg_aload_n X dX8_wrongCharacters_5 rfl 0 rfl ?_
  refine zg_iconst (v := (-1)) X dX8_wrongCharacters_6 (by decide) ?_
  refine zg_iconst (v := 0) X dX8_wrongCharacters_7 (by decide) ?_
  obtain ⟨b1, hb1, hf⟩ := pl_b hf
  refine zg_cU0 (ws2 := [(q0, .inr (7, [.ref q1, .ref q2, .int b1.2.2.1, .ref q3, .int b1.2.2.2.2.1, .int b1.2.2.2.2.2.1, .ref q4, .int b1.2.2.2.2.2.2.2.1, .ref q5, .ref q6, .ref q7, .int b1.2.2.2.2.2.2.2.2.2.2.2.1, .int b1.2.2.2.2.2.2.2.2.2.2.2.2.1, .int b1.2.2.2.2.2.2.2.2.2.2.2.2.2.1, .int b1.2.2.2.2.2.2.2.2.2.2.2.2.2.2.1, .ref q8, .int b1.2.2.2.2.2.2.2.2.2.2.2.2.2.2.2.2])), (q1, .inl (G.2.2.1, 946, .inl b1.1)), (q2, .inl (G.2.2.1, 5676, .inl b1.2.1)), (q3, .inl (G.2.2.1, 60, .inl b1.2.2.2.1)), (q4, .inl (G.2.2.1, 201, .inl b1.2.2.2.2.2.2.1)), (q5, .inl (G.2.2.1, 201, .inl b1.2.2.2.2.2.2.2.2.1)), (q6, .inl (G.2.2.1, 201, .inl b1.2.2.2.2.2.2.2.2.2.1)), (q7, .inl (G.2.2.1, 201, .inl b1.2.2.2.2.2.2.2.2.2.2.1)), (q8, .inl (G.2.2.1, 201, .inl b1.2.2.2.2.2.2.2.2.2.2.2.2.2.2.2.1))]) X (zg_runV X (zc_X8_decodes G q0 q1 q2 q3 q4 q5 q6 q7 q8 (v0.1, v0.2.1, v0.2.2.1, v0.2.2.2.1, v0.2.2.2.2.1, 0, v0.2.2.2.2.2.2.1, v0.2.2.2.2.2.2.2.1, v0.2.2.2.2.2.2.2.2.1, v0.2.2.2.2.2.2.2.2.2.1, v0.2.2.2.2.2.2.2.2.2.2.1, v0.2.2.2.2.2.2.2.2.2.2.2.1, v0.2.2.2.2.2.2.2.2.2.2.2.2.1, v0.2.2.2.2.2.2.2.2.2.2.2.2.2.1, v0.2.2.2.2.2.2.2.2.2.2.2.2.2.2.1, v0.2.2.2.2.2.2.2.2.2.2.2.2.2.2.2.1, v0.2.2.2.2.2.2.2.2.2.2.2.2.2.2.2.2) (-1) 0 fu b1 hb1) gX8_wrongCharacters_X8_decodes rfl zh_X8_decodes ⟨rfl, rfl⟩ ⟨Nat.le_of_ble_eq_true rfl, Nat.le_of_ble_eq_true rfl⟩ rfl rfl rfl (Nat.le_of_ble_eq_true rfl) ⟨Nat.le_of_ble_eq_true rfl, Nat.le_of_ble_eq_true rfl⟩ [0, 1, 2, 3, 4, 5, 6, 7, 8] (by decide) rfl rfl dX8_wrongCharacters_8) rfl rfl ?_
  refine zg_aload_n X dX8_wrongCharacters_11 rfl 0 rfl ?_
  obtain ⟨b2, hb2, hf⟩ := pl_b hf
  refine zg_cP1 X (zg_runV X (zc_X8_wrong G q0 q1 q2 q3 q4 q5 q6 q7 q8 b1 fu b2 hb2) gX8_wrongCharacters_X8_wrong rfl zh_X8_wrong ⟨rfl, rfl⟩ ⟨Nat.le_of_ble_eq_true rfl, Nat.le_of_ble_eq_true rfl⟩ rfl rfl rfl (Nat.le_of_ble_eq_true rfl) ⟨Nat.le_of_ble_eq_true rfl, Nat.le_of_ble_eq_true rfl⟩ [0, 1, 2, 3, 4, 5, 6, 7, 8] (by decide) rfl rfl dX8_wrongCharacters_12) rfl ?_
  have hf := Option.some.inj hf
  subst hf
  exact zg_iret X hF rfl rfl () rfl rfl (Nat.le_of_ble_eq_true rfl) (Nat.le_of_ble_eq_true rfl) dX8_wrongCharacters_15
theorem zh_X8_plausibility : yX8_plausibility.cls = RX8 ∧ yX8_plausibility.cls ≠ "java/lang/invoke/MethodHandle" ∧ yX8_plausibility.cls ≠ "java/lang/invoke/VarHandle" ∧ (parseMethodDescriptor yX8_plausibility.desc).map (fun d => d.parameters.length) = some 0 := by decide +kernel
set_option maxHeartbeats 8000000 in
set_option maxRecDepth 100000 in
theorem zc_X8_plausibility (G : zgG) (q0 q1 q2 q3 q4 q5 q6 q7 q8 : Nat) (v0 : zModel) (fu : Nat) (res : (UInt64 × zModel)) (hf : zf_X8_plausibility fu v0 = some res) : zgCt G yX8_plausibility wsX8_plausibility ({ frames := 4, cells := 0, slots := 0, locals := 98 } : Room) [.ref q0] [(q0, .inr (7, [.ref q1, .ref q2, .int v0.2.2.1, .ref q3, .int v0.2.2.2.2.1, .int v0.2.2.2.2.2.1, .ref q4, .int v0.2.2.2.2.2.2.2.1, .ref q5, .ref q6, .ref q7, .int v0.2.2.2.2.2.2.2.2.2.2.2.1, .int v0.2.2.2.2.2.2.2.2.2.2.2.2.1, .int v0.2.2.2.2.2.2.2.2.2.2.2.2.2.1, .int v0.2.2.2.2.2.2.2.2.2.2.2.2.2.2.1, .ref q8, .int v0.2.2.2.2.2.2.2.2.2.2.2.2.2.2.2.2])), (q1, .inl (G.2.2.1, 946, .inl v0.1)), (q2, .inl (G.2.2.1, 5676, .inl v0.2.1)), (q3, .inl (G.2.2.1, 60, .inl v0.2.2.2.1)), (q4, .inl (G.2.2.1, 201, .inl v0.2.2.2.2.2.2.1)), (q5, .inl (G.2.2.1, 201, .inl v0.2.2.2.2.2.2.2.2.1)), (q6, .inl (G.2.2.1, 201, .inl v0.2.2.2.2.2.2.2.2.2.1)), (q7, .inl (G.2.2.1, 201, .inl v0.2.2.2.2.2.2.2.2.2.2.1)), (q8, .inl (G.2.2.1, 201, .inl v0.2.2.2.2.2.2.2.2.2.2.2.2.2.2.2.1))] (fun _ : Unit => some (.double res.1)) (fun _ => [(q0, .inr (7, [.ref q1, .ref q2, .int res.2.2.2.1, .ref q3, .int res.2.2.2.2.2.1, .int res.2.2.2.2.2.2.1, .ref q4, .int res.2.2.2.2.2.2.2.2.1, .ref q5, .ref q6, .ref q7, .int res.2.2.2.2.2.2.2.2.2.2.2.2.1, .int res.2.2.2.2.2.2.2.2.2.2.2.2.2.1, .int res.2.2.2.2.2.2.2.2.2.2.2.2.2.2.1, .int res.2.2.2.2.2.2.2.2.2.2.2.2.2.2.2.1, .ref q8, .int res.2.2.2.2.2.2.2.2.2.2.2.2.2.2.2.2.2])), (q1, .inl (G.2.2.1, 946, .inl res.2.1)), (q2, .inl (G.2.2.1, 5676, .inl res.2.2.1)), (q3, .inl (G.2.2.1, 60, .inl res.2.2.2.2.1)), (q4, .inl (G.2.2.1, 201, .inl res.2.2.2.2.2.2.2.1)), (q5, .inl (G.2.2.1, 201, .inl res.2.2.2.2.2.2.2.2.2.1)), (q6, .inl (G.2.2.1, 201, .inl res.2.2.2.2.2.2.2.2.2.2.1)), (q7, .inl (G.2.2.1, 201, .inl res.2.2.2.2.2.2.2.2.2.2.2.1)), (q8, .inl (G.2.2.1, 201, .inl res.2.2.2.2.2.2.2.2.2.2.2.2.2.2.2.2.1))]) 0 0 := by
  have hw0 : Cond.fieldLink RX8 38 "TelexReceiverModel" "thrown" "I" ∈ wsX8_plausibility := by decide +kernel
  have hw1 : Cond.fieldLink RX8 97 "TelexReceiverModel" "segments" "I" ∈ wsX8_plausibility := by decide +kernel
  have hiX8 : ∀ w ∈ u_ws RX8 TX8 17, w ∈ wsX8_plausibility := by decide +kernel
  refine zg_of (own := RX8) (cc := cX8_plausibility) (nL := 1) (ret := (some .double)) (by decide +kernel) rfl rfl (Nat.le_of_ble_eq_true rfl) (fun Z X hF => ?_)
  show zgGd G Z _ 0 0 1 _ 0 [(0, .ref q0)] []
  unfold zf_X8_plausibility at hf
  refine zg_aload_n X dX8_plausibility_0 rfl 0 rfl ?_
  refine zg_iconst (v := 0) X dX8_plausibility_1 (by decide) ?_
  refine zg_put (C := RX8) (T := TX8) (N := 17) (ty := .int) (ws' := [(q0, .inr (7, [.ref q1, .ref q2, .int v0.2.2.1, .ref q3, .int v0.2.2.2.2.1, .int 0, .ref q4, .int v0.2.2.2.2.2.2.2.1, .ref q5, .ref q6, .ref q7, .int v0.2.2.2.2.2.2.2.2.2.2.2.1, .int v0.2.2.2.2.2.2.2.2.2.2.2.2.1, .int v0.2.2.2.2.2.2.2.2.2.2.2.2.2.1, .int v0.2.2.2.2.2.2.2.2.2.2.2.2.2.2.1, .ref q8, .int v0.2.2.2.2.2.2.2.2.2.2.2.2.2.2.2.2])), (q1, .inl (G.2.2.1, 946, .inl v0.1)), (q2, .inl (G.2.2.1, 5676, .inl v0.2.1)), (q3, .inl (G.2.2.1, 60, .inl v0.2.2.2.1)), (q4, .inl (G.2.2.1, 201, .inl v0.2.2.2.2.2.2.1)), (q5, .inl (G.2.2.1, 201, .inl v0.2.2.2.2.2.2.2.2.1)), (q6, .inl (G.2.2.1, 201, .inl v0.2.2.2.2.2.2.2.2.2.1)), (q7, .inl (G.2.2.1, 201, .inl v0.2.2.2.2.2.2.2.2.2.2.1)), (q8, .inl (G.2.2.1, 201, .inl v0.2.2.2.2.2.2.2.2.2.2.2.2.2.2.2.1))]) X 0 5 hiX8 tyX8 tyX8_ok nmX8 rfl rfl (by decide) hw0 rfl (by decide +kernel) rfl rfl (Nat.le_of_ble_eq_true rfl) rfl dX8_plausibility_2 ?_
  refine zg_aload_n X dX8_plausibility_5 rfl 0 rfl ?_
  refine zg_iconst (v := (-1)) X dX8_plausibility_6 (by decide) ?_
  refine zg_iconst (v := 0) X dX8_plausibility_7 (by decide) ?_
  obtain ⟨b1, hb1, hf⟩ := pl_b hf
  refine zg_cU0 (ws2 := [(q0, .inr (7, [.ref q1, .ref q2, .int b1.2.2.1, .ref q3, .int b1.2.2.2.2.1, .int b1.2.2.2.2.2.1, .ref q4, .int b1.2.2.2.2.2.2.2.1, .ref q5, .ref q6, .ref q7, .int b1.2.2.2.2.2.2.2.2.2.2.2.1, .int b1.2.2.2.2.2.2.2.2.2.2.2.2.1, .int b1.2.2.2.2.2.2.2.2.2.2.2.2.2.1, .int b1.2.2.2.2.2.2.2.2.2.2.2.2.2.2.1, .ref q8, .int b1.2.2.2.2.2.2.2.2.2.2.2.2.2.2.2.2])), (q1, .inl (G.2.2.1, 946, .inl b1.1)), (q2, .inl (G.2.2.1, 5676, .inl b1.2.1)), (q3, .inl (G.2.2.1, 60, .inl b1.2.2.2.1)), (q4, .inl (G.2.2.1, 201, .inl b1.2.2.2.2.2.2.1)), (q5, .inl (G.2.2.1, 201, .inl b1.2.2.2.2.2.2.2.2.1)), (q6, .inl (G.2.2.1, 201, .inl b1.2.2.2.2.2.2.2.2.2.1)), (q7, .inl (G.2.2.1, 201, .inl b1.2.2.2.2.2.2.2.2.2.2.1)), (q8, .inl (G.2.2.1, 201, .inl b1.2.2.2.2.2.2.2.2.2.2.2.2.2.2.2.1))]) X (zg_runV X (zc_X8_decodes G q0 q1 q2 q3 q4 q5 q6 q7 q8 (v0.1, v0.2.1, v0.2.2.1, v0.2.2.2.1, v0.2.2.2.2.1, 0, v0.2.2.2.2.2.2.1, v0.2.2.2.2.2.2.2.1, v0.2.2.2.2.2.2.2.2.1, v0.2.2.2.2.2.2.2.2.2.1, v0.2.2.2.2.2.2.2.2.2.2.1, v0.2.2.2.2.2.2.2.2.2.2.2.1, v0.2.2.2.2.2.2.2.2.2.2.2.2.1, v0.2.2.2.2.2.2.2.2.2.2.2.2.2.1, v0.2.2.2.2.2.2.2.2.2.2.2.2.2.2.1, v0.2.2.2.2.2.2.2.2.2.2.2.2.2.2.2.1, v0.2.2.2.2.2.2.2.2.2.2.2.2.2.2.2.2) (-1) 0 fu b1 hb1) gX8_plausibility_X8_decodes rfl zh_X8_decodes ⟨rfl, rfl⟩ ⟨Nat.le_of_ble_eq_true rfl, Nat.le_of_ble_eq_true rfl⟩ rfl rfl rfl (Nat.le_of_ble_eq_true rfl) ⟨Nat.le_of_ble_eq_true rfl, Nat.le_of_ble_eq_true rfl⟩ [0, 1, 2, 3, 4, 5, 6, 7, 8] (by decide) rfl rfl dX8_plausibility_8) rfl rfl ?_
  refine zg_aload_n X dX8_plausibility_11 rfl 0 rfl ?_
  refine zg_get (C := RX8) (T := TX8) (N := 17) X 0 11 hiX8 rfl rfl (by decide) hw1 rfl dX8_plausibility_12 ?_
  refine zg_if_ne (tgt := 22) X dX8_plausibility_15 (by decide) (fun c2 => ?_) (fun c2 => ?_)
  · have hf := pl_f c2 hf
    refine zg_aload_n X dX8_plausibility_22 rfl 0 rfl ?_
    refine zg_get (C := RX8) (T := TX8) (N := 17) X 0 11 hiX8 rfl rfl (by decide) hw1 rfl dX8_plausibility_23 ?_
    refine zg_aload_n X dX8_plausibility_26 rfl 0 rfl ?_
    refine zg_iconst (v := 4) X dX8_plausibility_27 (by decide) ?_
    obtain ⟨b3, hb3, hf⟩ := pl_b hf
    refine zg_cP1 X (zg_runV X (zc_X8_withBit G q0 q1 q2 q3 q4 q5 q6 q7 q8 b1 4 fu b3 hb3) gX8_plausibility_X8_withBit rfl zh_X8_withBit ⟨rfl, rfl⟩ ⟨Nat.le_of_ble_eq_true rfl, Nat.le_of_ble_eq_true rfl⟩ rfl rfl rfl (Nat.le_of_ble_eq_true rfl) ⟨Nat.le_of_ble_eq_true rfl, Nat.le_of_ble_eq_true rfl⟩ [0, 1, 2, 3, 4, 5, 6, 7, 8] (by decide) rfl rfl dX8_plausibility_28) rfl ?_
    refine zg_isub X dX8_plausibility_31 ?_
    refine zg_i2d X dX8_plausibility_32 ?_
    refine zg_aload_n X dX8_plausibility_33 rfl 0 rfl ?_
    refine zg_get (C := RX8) (T := TX8) (N := 17) X 0 11 hiX8 rfl rfl (by decide) hw1 rfl dX8_plausibility_34 ?_
    refine zg_i2d X dX8_plausibility_37 ?_
    obtain ⟨hb4, hf⟩ := pl_d hf
    refine zg_ddiv X dX8_plausibility_38 hb4 ?_
    obtain ⟨x5, ex5, hf⟩ := pl_l hf
    refine zg_topd ex5 ?_
    have hf := Option.some.inj hf
    subst hf
    exact zg_dret X hF () rfl rfl (Nat.le_of_ble_eq_true rfl) (Nat.le_of_ble_eq_true rfl) dX8_plausibility_39
  · have hf := pl_t c2 hf
    refine zg_dconst1 X dX8_plausibility_18 ?_
    refine zg_goto (tgt := 39) X dX8_plausibility_19 (by decide) ?_
    have hf := Option.some.inj hf
    subst hf
    exact zg_dret X hF () rfl rfl (Nat.le_of_ble_eq_true rfl) (Nat.le_of_ble_eq_true rfl) dX8_plausibility_39
theorem zh_X8_doubtsWith : yX8_doubtsWith.cls = RX8 ∧ yX8_doubtsWith.cls ≠ "java/lang/invoke/MethodHandle" ∧ yX8_doubtsWith.cls ≠ "java/lang/invoke/VarHandle" ∧ (parseMethodDescriptor yX8_doubtsWith.desc).map (fun d => d.parameters.length) = some 2 := by decide +kernel
set_option maxHeartbeats 8000000 in
set_option maxRecDepth 100000 in
theorem zc_X8_doubtsWith (G : zgG) (q0 q1 q2 q3 q4 q5 q6 q7 q8 : Nat) (v0 : zModel) (a1 : Int32) (a2 : Int32) (fu : Nat) (res : (Int32 × zModel)) (hf : zf_X8_doubtsWith fu v0 a1 a2 = some res) : zgCt G yX8_doubtsWith wsX8_doubtsWith ({ frames := 4, cells := 0, slots := 0, locals := 98 } : Room) [.ref q0, .int a1, .int a2] [(q0, .inr (7, [.ref q1, .ref q2, .int v0.2.2.1, .ref q3, .int v0.2.2.2.2.1, .int v0.2.2.2.2.2.1, .ref q4, .int v0.2.2.2.2.2.2.2.1, .ref q5, .ref q6, .ref q7, .int v0.2.2.2.2.2.2.2.2.2.2.2.1, .int v0.2.2.2.2.2.2.2.2.2.2.2.2.1, .int v0.2.2.2.2.2.2.2.2.2.2.2.2.2.1, .int v0.2.2.2.2.2.2.2.2.2.2.2.2.2.2.1, .ref q8, .int v0.2.2.2.2.2.2.2.2.2.2.2.2.2.2.2.2])), (q1, .inl (G.2.2.1, 946, .inl v0.1)), (q2, .inl (G.2.2.1, 5676, .inl v0.2.1)), (q3, .inl (G.2.2.1, 60, .inl v0.2.2.2.1)), (q4, .inl (G.2.2.1, 201, .inl v0.2.2.2.2.2.2.1)), (q5, .inl (G.2.2.1, 201, .inl v0.2.2.2.2.2.2.2.2.1)), (q6, .inl (G.2.2.1, 201, .inl v0.2.2.2.2.2.2.2.2.2.1)), (q7, .inl (G.2.2.1, 201, .inl v0.2.2.2.2.2.2.2.2.2.2.1)), (q8, .inl (G.2.2.1, 201, .inl v0.2.2.2.2.2.2.2.2.2.2.2.2.2.2.2.1))] (fun _ : Unit => some (.int res.1)) (fun _ => [(q0, .inr (7, [.ref q1, .ref q2, .int res.2.2.2.1, .ref q3, .int res.2.2.2.2.2.1, .int res.2.2.2.2.2.2.1, .ref q4, .int res.2.2.2.2.2.2.2.2.1, .ref q5, .ref q6, .ref q7, .int res.2.2.2.2.2.2.2.2.2.2.2.2.1, .int res.2.2.2.2.2.2.2.2.2.2.2.2.2.1, .int res.2.2.2.2.2.2.2.2.2.2.2.2.2.2.1, .int res.2.2.2.2.2.2.2.2.2.2.2.2.2.2.2.1, .ref q8, .int res.2.2.2.2.2.2.2.2.2.2.2.2.2.2.2.2.2])), (q1, .inl (G.2.2.1, 946, .inl res.2.1)), (q2, .inl (G.2.2.1, 5676, .inl res.2.2.1)), (q3, .inl (G.2.2.1, 60, .inl res.2.2.2.2.1)), (q4, .inl (G.2.2.1, 201, .inl res.2.2.2.2.2.2.2.1)), (q5, .inl (G.2.2.1, 201, .inl res.2.2.2.2.2.2.2.2.2.1)), (q6, .inl (G.2.2.1, 201, .inl res.2.2.2.2.2.2.2.2.2.2.1)), (q7, .inl (G.2.2.1, 201, .inl res.2.2.2.2.2.2.2.2.2.2.2.1)), (q8, .inl (G.2.2.1, 201, .inl res.2.2.2.2.2.2.2.2.2.2.2.2.2.2.2.2.1))]) 0 0 := by
  refine zg_of (own := RX8) (cc := cX8_doubtsWith) (nL := 3) (ret := (some .int)) (by decide +kernel) rfl rfl (Nat.le_of_ble_eq_true rfl) (fun Z X hF => ?_)
  show zgGd G Z _ 0 0 3 _ 0 [(0, .ref q0), (1, .int a1), (2, .int a2)] []
  unfold zf_X8_doubtsWith at hf
  refine zg_aload_n X dX8_doubtsWith_0 rfl 0 rfl ?_
  refine zg_iload_n X dX8_doubtsWith_1 rfl 1 rfl ?_
  refine zg_iload_n X dX8_doubtsWith_2 rfl 2 rfl ?_
  obtain ⟨b1, hb1, hf⟩ := pl_b hf
  refine zg_cU0 (ws2 := [(q0, .inr (7, [.ref q1, .ref q2, .int b1.2.2.1, .ref q3, .int b1.2.2.2.2.1, .int b1.2.2.2.2.2.1, .ref q4, .int b1.2.2.2.2.2.2.2.1, .ref q5, .ref q6, .ref q7, .int b1.2.2.2.2.2.2.2.2.2.2.2.1, .int b1.2.2.2.2.2.2.2.2.2.2.2.2.1, .int b1.2.2.2.2.2.2.2.2.2.2.2.2.2.1, .int b1.2.2.2.2.2.2.2.2.2.2.2.2.2.2.1, .ref q8, .int b1.2.2.2.2.2.2.2.2.2.2.2.2.2.2.2.2])), (q1, .inl (G.2.2.1, 946, .inl b1.1)), (q2, .inl (G.2.2.1, 5676, .inl b1.2.1)), (q3, .inl (G.2.2.1, 60, .inl b1.2.2.2.1)), (q4, .inl (G.2.2.1, 201, .inl b1.2.2.2.2.2.2.1)), (q5, .inl (G.2.2.1, 201, .inl b1.2.2.2.2.2.2.2.2.1)), (q6, .inl (G.2.2.1, 201, .inl b1.2.2.2.2.2.2.2.2.2.1)), (q7, .inl (G.2.2.1, 201, .inl b1.2.2.2.2.2.2.2.2.2.2.1)), (q8, .inl (G.2.2.1, 201, .inl b1.2.2.2.2.2.2.2.2.2.2.2.2.2.2.2.1))]) X (zg_runV X (zc_X8_decodes G q0 q1 q2 q3 q4 q5 q6 q7 q8 v0 a1 a2 fu b1 hb1) gX8_doubtsWith_X8_decodes rfl zh_X8_decodes ⟨rfl, rfl⟩ ⟨Nat.le_of_ble_eq_true rfl, Nat.le_of_ble_eq_true rfl⟩ rfl rfl rfl (Nat.le_of_ble_eq_true rfl) ⟨Nat.le_of_ble_eq_true rfl, Nat.le_of_ble_eq_true rfl⟩ [0, 1, 2, 3, 4, 5, 6, 7, 8] (by decide) rfl rfl dX8_doubtsWith_3) rfl rfl ?_
  refine zg_aload_n X dX8_doubtsWith_6 rfl 0 rfl ?_
  refine zg_iconst (v := 4) X dX8_doubtsWith_7 (by decide) ?_
  obtain ⟨b2, hb2, hf⟩ := pl_b hf
  refine zg_cP1 X (zg_runV X (zc_X8_withBit G q0 q1 q2 q3 q4 q5 q6 q7 q8 b1 4 fu b2 hb2) gX8_doubtsWith_X8_withBit rfl zh_X8_withBit ⟨rfl, rfl⟩ ⟨Nat.le_of_ble_eq_true rfl, Nat.le_of_ble_eq_true rfl⟩ rfl rfl rfl (Nat.le_of_ble_eq_true rfl) ⟨Nat.le_of_ble_eq_true rfl, Nat.le_of_ble_eq_true rfl⟩ [0, 1, 2, 3, 4, 5, 6, 7, 8] (by decide) rfl rfl dX8_doubtsWith_8) rfl ?_
  have hf := Option.some.inj hf
  subst hf
  exact zg_iret X hF rfl rfl () rfl rfl (Nat.le_of_ble_eq_true rfl) (Nat.le_of_ble_eq_true rfl) dX8_doubtsWith_11
theorem zh_X8_doubtfulWith : yX8_doubtfulWith.cls = RX8 ∧ yX8_doubtfulWith.cls ≠ "java/lang/invoke/MethodHandle" ∧ yX8_doubtfulWith.cls ≠ "java/lang/invoke/VarHandle" ∧ (parseMethodDescriptor yX8_doubtfulWith.desc).map (fun d => d.parameters.length) = some 2 := by decide +kernel
set_option maxHeartbeats 8000000 in
set_option maxRecDepth 100000 in
theorem zc_X8_doubtfulWith (G : zgG) (q0 q1 q2 q3 q4 q5 q6 q7 q8 : Nat) (v0 : zModel) (a1 : Int32) (a2 : Int32) (fu : Nat) (res : (Int32 × zModel)) (hf : zf_X8_doubtfulWith fu v0 a1 a2 = some res) : zgCt G yX8_doubtfulWith wsX8_doubtfulWith ({ frames := 5, cells := 0, slots := 0, locals := 120 } : Room) [.ref q0, .int a1, .int a2] [(q0, .inr (7, [.ref q1, .ref q2, .int v0.2.2.1, .ref q3, .int v0.2.2.2.2.1, .int v0.2.2.2.2.2.1, .ref q4, .int v0.2.2.2.2.2.2.2.1, .ref q5, .ref q6, .ref q7, .int v0.2.2.2.2.2.2.2.2.2.2.2.1, .int v0.2.2.2.2.2.2.2.2.2.2.2.2.1, .int v0.2.2.2.2.2.2.2.2.2.2.2.2.2.1, .int v0.2.2.2.2.2.2.2.2.2.2.2.2.2.2.1, .ref q8, .int v0.2.2.2.2.2.2.2.2.2.2.2.2.2.2.2.2])), (q1, .inl (G.2.2.1, 946, .inl v0.1)), (q2, .inl (G.2.2.1, 5676, .inl v0.2.1)), (q3, .inl (G.2.2.1, 60, .inl v0.2.2.2.1)), (q4, .inl (G.2.2.1, 201, .inl v0.2.2.2.2.2.2.1)), (q5, .inl (G.2.2.1, 201, .inl v0.2.2.2.2.2.2.2.2.1)), (q6, .inl (G.2.2.1, 201, .inl v0.2.2.2.2.2.2.2.2.2.1)), (q7, .inl (G.2.2.1, 201, .inl v0.2.2.2.2.2.2.2.2.2.2.1)), (q8, .inl (G.2.2.1, 201, .inl v0.2.2.2.2.2.2.2.2.2.2.2.2.2.2.2.1))] (fun _ : Unit => some (.int res.1)) (fun _ => [(q0, .inr (7, [.ref q1, .ref q2, .int res.2.2.2.1, .ref q3, .int res.2.2.2.2.2.1, .int res.2.2.2.2.2.2.1, .ref q4, .int res.2.2.2.2.2.2.2.2.1, .ref q5, .ref q6, .ref q7, .int res.2.2.2.2.2.2.2.2.2.2.2.2.1, .int res.2.2.2.2.2.2.2.2.2.2.2.2.2.1, .int res.2.2.2.2.2.2.2.2.2.2.2.2.2.2.1, .int res.2.2.2.2.2.2.2.2.2.2.2.2.2.2.2.1, .ref q8, .int res.2.2.2.2.2.2.2.2.2.2.2.2.2.2.2.2.2])), (q1, .inl (G.2.2.1, 946, .inl res.2.1)), (q2, .inl (G.2.2.1, 5676, .inl res.2.2.1)), (q3, .inl (G.2.2.1, 60, .inl res.2.2.2.2.1)), (q4, .inl (G.2.2.1, 201, .inl res.2.2.2.2.2.2.2.1)), (q5, .inl (G.2.2.1, 201, .inl res.2.2.2.2.2.2.2.2.2.1)), (q6, .inl (G.2.2.1, 201, .inl res.2.2.2.2.2.2.2.2.2.2.1)), (q7, .inl (G.2.2.1, 201, .inl res.2.2.2.2.2.2.2.2.2.2.2.1)), (q8, .inl (G.2.2.1, 201, .inl res.2.2.2.2.2.2.2.2.2.2.2.2.2.2.2.2.1))]) 0 0 := by
  have hw0 : Cond.fieldLink RX8 7 "TelexReceiverModel" "s" "[I" ∈ wsX8_doubtfulWith := by decide +kernel
  have hiX8 : ∀ w ∈ u_ws RX8 TX8 17, w ∈ wsX8_doubtfulWith := by decide +kernel
  refine zg_of (own := RX8) (cc := cX8_doubtfulWith) (nL := 3) (ret := (some .int)) (by decide +kernel) rfl rfl (Nat.le_of_ble_eq_true rfl) (fun Z X hF => ?_)
  show zgGd G Z _ 0 0 3 _ 0 [(0, .ref q0), (1, .int a1), (2, .int a2)] []
  have hb37 : ∀ (y1 : Int32) (y2 : Int32) (z1 : Int32) (w0 : (Nat → Int32)) (w1 : (Nat → Int32)) (w2 : Int32) (w3 : (Nat → Int32)) (w4 : Int32) (w5 : Int32) (w6 : (Nat → Int32)) (w7 : Int32) (w8 : (Nat → Int32)) (w9 : (Nat → Int32)) (w10 : (Nat → Int32)) (w11 : Int32) (w12 : Int32) (w13 : Int32) (w14 : Int32) (w15 : (Nat → Int32)) (w16 : Int32), zf_X8_doubtfulWith_b37 fu v0 y1 y2 z1 w0 w1 w2 w3 w4 w5 w6 w7 w8 w9 w10 w11 w12 w13 w14 w15 w16 = some res → zgGd G Z ({ frames := 5, cells := 0, slots := 0, locals := 120 } : Room) 0 0 3 [(q0, .inr (7, [.ref q1, .ref q2, .int w2, .ref q3, .int w4, .int w5, .ref q4, .int w7, .ref q5, .ref q6, .ref q7, .int w11, .int w12, .int w13, .int w14, .ref q8, .int w16])), (q1, .inl (G.2.2.1, 946, .inl w0)), (q2, .inl (G.2.2.1, 5676, .inl w1)), (q3, .inl (G.2.2.1, 60, .inl w3)), (q4, .inl (G.2.2.1, 201, .inl w6)), (q5, .inl (G.2.2.1, 201, .inl w8)), (q6, .inl (G.2.2.1, 201, .inl w9)), (q7, .inl (G.2.2.1, 201, .inl w10)), (q8, .inl (G.2.2.1, 201, .inl w15))] 37 [(0, .ref q0), (1, .int y1), (2, .int y2)] [.int z1, .ref q0] := by
    intro y1 y2 z1 w0 w1 w2 w3 w4 w5 w6 w7 w8 w9 w10 w11 w12 w13 w14 w15 w16 hf
    unfold zf_X8_doubtfulWith_b37 at hf
    obtain ⟨b6, hb6, hf⟩ := pl_b hf
    refine zg_cU1 (ws2 := [(q0, .inr (7, [.ref q1, .ref q2, .int b6.2.2.2.1, .ref q3, .int b6.2.2.2.2.2.1, .int b6.2.2.2.2.2.2.1, .ref q4, .int b6.2.2.2.2.2.2.2.2.1, .ref q5, .ref q6, .ref q7, .int b6.2.2.2.2.2.2.2.2.2.2.2.2.1, .int b6.2.2.2.2.2.2.2.2.2.2.2.2.2.1, .int b6.2.2.2.2.2.2.2.2.2.2.2.2.2.2.1, .int b6.2.2.2.2.2.2.2.2.2.2.2.2.2.2.2.1, .ref q8, .int b6.2.2.2.2.2.2.2.2.2.2.2.2.2.2.2.2.2])), (q1, .inl (G.2.2.1, 946, .inl b6.2.1)), (q2, .inl (G.2.2.1, 5676, .inl b6.2.2.1)), (q3, .inl (G.2.2.1, 60, .inl b6.2.2.2.2.1)), (q4, .inl (G.2.2.1, 201, .inl b6.2.2.2.2.2.2.2.1)), (q5, .inl (G.2.2.1, 201, .inl b6.2.2.2.2.2.2.2.2.2.1)), (q6, .inl (G.2.2.1, 201, .inl b6.2.2.2.2.2.2.2.2.2.2.1)), (q7, .inl (G.2.2.1, 201, .inl b6.2.2.2.2.2.2.2.2.2.2.2.1)), (q8, .inl (G.2.2.1, 201, .inl b6.2.2.2.2.2.2.2.2.2.2.2.2.2.2.2.2.1))]) X (zg_runV X (zc_X8_refused G q0 q1 q2 q3 q4 q5 q6 q7 q8 (w0, w1, w2, w3, w4, w5, w6, w7, w8, w9, w10, w11, w12, w13, w14, w15, w16) z1 fu b6 hb6) gX8_doubtfulWith_X8_refused rfl zh_X8_refused ⟨rfl, rfl⟩ ⟨Nat.le_of_ble_eq_true rfl, Nat.le_of_ble_eq_true rfl⟩ rfl rfl rfl (Nat.le_of_ble_eq_true rfl) ⟨Nat.le_of_ble_eq_true rfl, Nat.le_of_ble_eq_true rfl⟩ [0, 1, 2, 3, 4, 5, 6, 7, 8] (by decide) rfl rfl dX8_doubtfulWith_37) rfl rfl ?_
    refine zg_if_eq (tgt := 45) X dX8_doubtfulWith_40 (by decide) (fun c7 => ?_) (fun c7 => ?_)
    · have hf := pl_t c7 hf
      refine zg_aload_n X dX8_doubtfulWith_45 rfl 0 rfl ?_
      refine zg_iload_n X dX8_doubtfulWith_46 rfl 1 rfl ?_
      refine zg_iload_n X dX8_doubtfulWith_47 rfl 2 rfl ?_
      obtain ⟨b8, hb8, hf⟩ := pl_b hf
      refine zg_cU1 (ws2 := [(q0, .inr (7, [.ref q1, .ref q2, .int b8.2.2.2.1, .ref q3, .int b8.2.2.2.2.2.1, .int b8.2.2.2.2.2.2.1, .ref q4, .int b8.2.2.2.2.2.2.2.2.1, .ref q5, .ref q6, .ref q7, .int b8.2.2.2.2.2.2.2.2.2.2.2.2.1, .int b8.2.2.2.2.2.2.2.2.2.2.2.2.2.1, .int b8.2.2.2.2.2.2.2.2.2.2.2.2.2.2.1, .int b8.2.2.2.2.2.2.2.2.2.2.2.2.2.2.2.1, .ref q8, .int b8.2.2.2.2.2.2.2.2.2.2.2.2.2.2.2.2.2])), (q1, .inl (G.2.2.1, 946, .inl b8.2.1)), (q2, .inl (G.2.2.1, 5676, .inl b8.2.2.1)), (q3, .inl (G.2.2.1, 60, .inl b8.2.2.2.2.1)), (q4, .inl (G.2.2.1, 201, .inl b8.2.2.2.2.2.2.2.1)), (q5, .inl (G.2.2.1, 201, .inl b8.2.2.2.2.2.2.2.2.2.1)), (q6, .inl (G.2.2.1, 201, .inl b8.2.2.2.2.2.2.2.2.2.2.1)), (q7, .inl (G.2.2.1, 201, .inl b8.2.2.2.2.2.2.2.2.2.2.2.1)), (q8, .inl (G.2.2.1, 201, .inl b8.2.2.2.2.2.2.2.2.2.2.2.2.2.2.2.2.1))]) X (zg_runV X (zc_X8_doubtsWith G q0 q1 q2 q3 q4 q5 q6 q7 q8 b6.2 y1 y2 fu b8 hb8) gX8_doubtfulWith_X8_doubtsWith rfl zh_X8_doubtsWith ⟨rfl, rfl⟩ ⟨Nat.le_of_ble_eq_true rfl, Nat.le_of_ble_eq_true rfl⟩ rfl rfl rfl (Nat.le_of_ble_eq_true rfl) ⟨Nat.le_of_ble_eq_true rfl, Nat.le_of_ble_eq_true rfl⟩ [0, 1, 2, 3, 4, 5, 6, 7, 8] (by decide) rfl rfl dX8_doubtfulWith_48) rfl rfl ?_
      have hf := Option.some.inj hf
      subst hf
      exact zg_iret X hF rfl rfl () rfl rfl (Nat.le_of_ble_eq_true rfl) (Nat.le_of_ble_eq_true rfl) dX8_doubtfulWith_51
    · have hf := pl_f c7 hf
      refine zg_iconst (v := 0) X dX8_doubtfulWith_43 (by decide) ?_
      have hf := Option.some.inj hf
      subst hf
      exact zg_iret X hF rfl rfl () rfl rfl (Nat.le_of_ble_eq_true rfl) (Nat.le_of_ble_eq_true rfl) dX8_doubtfulWith_44
  unfold zf_X8_doubtfulWith at hf
  refine zg_aload_n X dX8_doubtfulWith_0 rfl 0 rfl ?_
  refine zg_iload_n X dX8_doubtfulWith_1 rfl 1 rfl ?_
  refine zg_iconst (v := 0) X dX8_doubtfulWith_2 (by decide) ?_
  refine zg_aload_n X dX8_doubtfulWith_3 rfl 0 rfl ?_
  refine zg_get (C := RX8) (T := TX8) (N := 17) X 0 0 hiX8 rfl rfl (by decide) hw0 rfl dX8_doubtfulWith_4 ?_
  refine zg_sipush (v := 201) X dX8_doubtfulWith_7 (by decide) ?_
  refine zg_iald X 1 rfl (by unfold vp_in; decide) dX8_doubtfulWith_10 ?_
  obtain ⟨x1, ex1, hf⟩ := pl_l hf
  refine zg_topi ex1 ?_
  obtain ⟨b2, hb2, hf⟩ := pl_b hf
  refine zg_cP1 X (zg_runS X (zc_X8_in G a1 0 x1 fu b2 hb2) gX8_doubtfulWith_X8_in rfl zh_X8_in.2 ⟨rfl, rfl⟩ ⟨Nat.le_of_ble_eq_true rfl, Nat.le_of_ble_eq_true rfl⟩ rfl (Nat.le_of_ble_eq_true rfl) ⟨Nat.le_of_ble_eq_true rfl, Nat.le_of_ble_eq_true rfl⟩ [] (by decide) rfl rfl dX8_doubtfulWith_11) rfl ?_
  refine zg_if_ne (tgt := 21) X dX8_doubtfulWith_14 (by decide) (fun c3 => ?_) (fun c3 => ?_)
  · have hf := pl_f c3 hf
    refine zg_iload_n X dX8_doubtfulWith_21 rfl 2 rfl ?_
    refine zg_bipush (v := 30) X dX8_doubtfulWith_22 (by decide) ?_
    refine zg_bipush (v := 31) X dX8_doubtfulWith_24 (by decide) ?_
    obtain ⟨b4, hb4, hf⟩ := pl_b hf
    refine zg_cP1 X (zg_runS X (zc_X8_in G a2 30 31 fu b4 hb4) gX8_doubtfulWith_X8_in rfl zh_X8_in.2 ⟨rfl, rfl⟩ ⟨Nat.le_of_ble_eq_true rfl, Nat.le_of_ble_eq_true rfl⟩ rfl (Nat.le_of_ble_eq_true rfl) ⟨Nat.le_of_ble_eq_true rfl, Nat.le_of_ble_eq_true rfl⟩ [] (by decide) rfl rfl dX8_doubtfulWith_26) rfl ?_
    refine zg_if_eq (tgt := 36) X dX8_doubtfulWith_29 (by decide) (fun c5 => ?_) (fun c5 => ?_)
    · have hf := pl_t c5 hf
      refine zg_iconst (v := 2) X dX8_doubtfulWith_36 (by decide) ?_
      exact hb37 a1 a2 2 v0.1 v0.2.1 v0.2.2.1 v0.2.2.2.1 v0.2.2.2.2.1 v0.2.2.2.2.2.1 v0.2.2.2.2.2.2.1 v0.2.2.2.2.2.2.2.1 v0.2.2.2.2.2.2.2.2.1 v0.2.2.2.2.2.2.2.2.2.1 v0.2.2.2.2.2.2.2.2.2.2.1 v0.2.2.2.2.2.2.2.2.2.2.2.1 v0.2.2.2.2.2.2.2.2.2.2.2.2.1 v0.2.2.2.2.2.2.2.2.2.2.2.2.2.1 v0.2.2.2.2.2.2.2.2.2.2.2.2.2.2.1 v0.2.2.2.2.2.2.2.2.2.2.2.2.2.2.2.1 v0.2.2.2.2.2.2.2.2.2.2.2.2.2.2.2.2 hf
    · have hf := pl_f c5 hf
      refine zg_iconst (v := 0) X dX8_doubtfulWith_32 (by decide) ?_
      refine zg_goto (tgt := 37) X dX8_doubtfulWith_33 (by decide) ?_
      exact hb37 a1 a2 0 v0.1 v0.2.1 v0.2.2.1 v0.2.2.2.1 v0.2.2.2.2.1 v0.2.2.2.2.2.1 v0.2.2.2.2.2.2.1 v0.2.2.2.2.2.2.2.1 v0.2.2.2.2.2.2.2.2.1 v0.2.2.2.2.2.2.2.2.2.1 v0.2.2.2.2.2.2.2.2.2.2.1 v0.2.2.2.2.2.2.2.2.2.2.2.1 v0.2.2.2.2.2.2.2.2.2.2.2.2.1 v0.2.2.2.2.2.2.2.2.2.2.2.2.2.1 v0.2.2.2.2.2.2.2.2.2.2.2.2.2.2.1 v0.2.2.2.2.2.2.2.2.2.2.2.2.2.2.2.1 v0.2.2.2.2.2.2.2.2.2.2.2.2.2.2.2.2 hf
  · have hf := pl_t c3 hf
    refine zg_iconst (v := 1) X dX8_doubtfulWith_17 (by decide) ?_
    refine zg_goto (tgt := 37) X dX8_doubtfulWith_18 (by decide) ?_
    exact hb37 a1 a2 1 v0.1 v0.2.1 v0.2.2.1 v0.2.2.2.1 v0.2.2.2.2.1 v0.2.2.2.2.2.1 v0.2.2.2.2.2.2.1 v0.2.2.2.2.2.2.2.1 v0.2.2.2.2.2.2.2.2.1 v0.2.2.2.2.2.2.2.2.2.1 v0.2.2.2.2.2.2.2.2.2.2.1 v0.2.2.2.2.2.2.2.2.2.2.2.1 v0.2.2.2.2.2.2.2.2.2.2.2.2.1 v0.2.2.2.2.2.2.2.2.2.2.2.2.2.1 v0.2.2.2.2.2.2.2.2.2.2.2.2.2.2.1 v0.2.2.2.2.2.2.2.2.2.2.2.2.2.2.2.1 v0.2.2.2.2.2.2.2.2.2.2.2.2.2.2.2.2 hf
theorem zh_X8_repair : yX8_repair.cls = RX8 ∧ yX8_repair.cls ≠ "java/lang/invoke/MethodHandle" ∧ yX8_repair.cls ≠ "java/lang/invoke/VarHandle" ∧ (parseMethodDescriptor yX8_repair.desc).map (fun d => d.parameters.length) = some 0 := by decide +kernel
set_option maxHeartbeats 8000000 in
set_option maxRecDepth 100000 in
theorem zc_X8_repair (G : zgG) (q0 q1 q2 q3 q4 q5 q6 q7 q8 : Nat) (v0 : zModel) (fu : Nat) (res : (Int32 × zModel)) (hf : zf_X8_repair fu v0 = some res) : zgCt G yX8_repair wsX8_repair ({ frames := 5, cells := 0, slots := 0, locals := 120 } : Room) [.ref q0] [(q0, .inr (7, [.ref q1, .ref q2, .int v0.2.2.1, .ref q3, .int v0.2.2.2.2.1, .int v0.2.2.2.2.2.1, .ref q4, .int v0.2.2.2.2.2.2.2.1, .ref q5, .ref q6, .ref q7, .int v0.2.2.2.2.2.2.2.2.2.2.2.1, .int v0.2.2.2.2.2.2.2.2.2.2.2.2.1, .int v0.2.2.2.2.2.2.2.2.2.2.2.2.2.1, .int v0.2.2.2.2.2.2.2.2.2.2.2.2.2.2.1, .ref q8, .int v0.2.2.2.2.2.2.2.2.2.2.2.2.2.2.2.2])), (q1, .inl (G.2.2.1, 946, .inl v0.1)), (q2, .inl (G.2.2.1, 5676, .inl v0.2.1)), (q3, .inl (G.2.2.1, 60, .inl v0.2.2.2.1)), (q4, .inl (G.2.2.1, 201, .inl v0.2.2.2.2.2.2.1)), (q5, .inl (G.2.2.1, 201, .inl v0.2.2.2.2.2.2.2.2.1)), (q6, .inl (G.2.2.1, 201, .inl v0.2.2.2.2.2.2.2.2.2.1)), (q7, .inl (G.2.2.1, 201, .inl v0.2.2.2.2.2.2.2.2.2.2.1)), (q8, .inl (G.2.2.1, 201, .inl v0.2.2.2.2.2.2.2.2.2.2.2.2.2.2.2.1))] (fun _ : Unit => some (.int res.1)) (fun _ => [(q0, .inr (7, [.ref q1, .ref q2, .int res.2.2.2.1, .ref q3, .int res.2.2.2.2.2.1, .int res.2.2.2.2.2.2.1, .ref q4, .int res.2.2.2.2.2.2.2.2.1, .ref q5, .ref q6, .ref q7, .int res.2.2.2.2.2.2.2.2.2.2.2.2.1, .int res.2.2.2.2.2.2.2.2.2.2.2.2.2.1, .int res.2.2.2.2.2.2.2.2.2.2.2.2.2.2.1, .int res.2.2.2.2.2.2.2.2.2.2.2.2.2.2.2.1, .ref q8, .int res.2.2.2.2.2.2.2.2.2.2.2.2.2.2.2.2.2])), (q1, .inl (G.2.2.1, 946, .inl res.2.1)), (q2, .inl (G.2.2.1, 5676, .inl res.2.2.1)), (q3, .inl (G.2.2.1, 60, .inl res.2.2.2.2.1)), (q4, .inl (G.2.2.1, 201, .inl res.2.2.2.2.2.2.2.1)), (q5, .inl (G.2.2.1, 201, .inl res.2.2.2.2.2.2.2.2.2.1)), (q6, .inl (G.2.2.1, 201, .inl res.2.2.2.2.2.2.2.2.2.2.1)), (q7, .inl (G.2.2.1, 201, .inl res.2.2.2.2.2.2.2.2.2.2.2.1)), (q8, .inl (G.2.2.1, 201, .inl res.2.2.2.2.2.2.2.2.2.2.2.2.2.2.2.2.1))]) 0 0 := by
  have hw0 : Cond.fieldLink RX8 7 "TelexReceiverModel" "s" "[I" ∈ wsX8_repair := by decide +kernel
  have hiX8 : ∀ w ∈ u_ws RX8 TX8 17, w ∈ wsX8_repair := by decide +kernel
  refine zg_of (own := RX8) (cc := cX8_repair) (nL := 5) (ret := (some .int)) (by decide +kernel) rfl rfl (Nat.le_of_ble_eq_true rfl) (fun Z X hF => ?_)
  show zgGd G Z _ 0 0 5 _ 0 [(0, .ref q0)] []
  have hL11 : ∀ (n : Nat) (y1 : Int32) (y2 : Int32) (y3 : Int32) (w0 : (Nat → Int32)) (w1 : (Nat → Int32)) (w2 : Int32) (w3 : (Nat → Int32)) (w4 : Int32) (w5 : Int32) (w6 : (Nat → Int32)) (w7 : Int32) (w8 : (Nat → Int32)) (w9 : (Nat → Int32)) (w10 : (Nat → Int32)) (w11 : Int32) (w12 : Int32) (w13 : Int32) (w14 : Int32) (w15 : (Nat → Int32)) (w16 : Int32), zf_X8_repair_L11 fu v0 n y1 y2 y3 w0 w1 w2 w3 w4 w5 w6 w7 w8 w9 w10 w11 w12 w13 w14 w15 w16 = some res → zgGd G Z ({ frames := 5, cells := 0, slots := 0, locals := 120 } : Room) 0 0 5 [(q0, .inr (7, [.ref q1, .ref q2, .int w2, .ref q3, .int w4, .int w5, .ref q4, .int w7, .ref q5, .ref q6, .ref q7, .int w11, .int w12, .int w13, .int w14, .ref q8, .int w16])), (q1, .inl (G.2.2.1, 946, .inl w0)), (q2, .inl (G.2.2.1, 5676, .inl w1)), (q3, .inl (G.2.2.1, 60, .inl w3)), (q4, .inl (G.2.2.1, 201, .inl w6)), (q5, .inl (G.2.2.1, 201, .inl w8)), (q6, .inl (G.2.2.1, 201, .inl w9)), (q7, .inl (G.2.2.1, 201, .inl w10)), (q8, .inl (G.2.2.1, 201, .inl w15))] 11 [(0, .ref q0), (1, .int y1), (2, .int y2), (3, .int y3)] [] := by
    intro n
    induction n with
    | zero =>
      intro y1 y2 y3 w0 w1 w2 w3 w4 w5 w6 w7 w8 w9 w10 w11 w12 w13 w14 w15 w16 hf
      rw [zf_X8_repair_L11] at hf
      cases hf
    | succ n11 ih11 =>
      have hb74 : ∀ (y2 : Int32) (y3 : Int32) (z0 : Int32) (w0 : (Nat → Int32)) (w1 : (Nat → Int32)) (w2 : Int32) (w3 : (Nat → Int32)) (w4 : Int32) (w5 : Int32) (w6 : (Nat → Int32)) (w7 : Int32) (w8 : (Nat → Int32)) (w9 : (Nat → Int32)) (w10 : (Nat → Int32)) (w11 : Int32) (w12 : Int32) (w13 : Int32) (w14 : Int32) (w15 : (Nat → Int32)) (w16 : Int32), zf_X8_repair_b74 fu v0 (zf_X8_repair_L11 fu v0 n11) y2 y3 z0 w0 w1 w2 w3 w4 w5 w6 w7 w8 w9 w10 w11 w12 w13 w14 w15 w16 = some res → zgGd G Z ({ frames := 5, cells := 0, slots := 0, locals := 120 } : Room) 0 0 5 [(q0, .inr (7, [.ref q1, .ref q2, .int w2, .ref q3, .int w4, .int w5, .ref q4, .int w7, .ref q5, .ref q6, .ref q7, .int w11, .int w12, .int w13, .int w14, .ref q8, .int w16])), (q1, .inl (G.2.2.1, 946, .inl w0)), (q2, .inl (G.2.2.1, 5676, .inl w1)), (q3, .inl (G.2.2.1, 60, .inl w3)), (q4, .inl (G.2.2.1, 201, .inl w6)), (q5, .inl (G.2.2.1, 201, .inl w8)), (q6, .inl (G.2.2.1, 201, .inl w9)), (q7, .inl (G.2.2.1, 201, .inl w10)), (q8, .inl (G.2.2.1, 201, .inl w15))] 74 [(0, .ref q0), (2, .int y2), (3, .int y3)] [.int z0] := by
        intro y2 y3 z0 w0 w1 w2 w3 w4 w5 w6 w7 w8 w9 w10 w11 w12 w13 w14 w15 w16 hf
        unfold zf_X8_repair_b74 at hf
        refine zg_istore_n (L' := [(1, .int z0), (0, .ref q0), (2, .int y2), (3, .int y3)]) X dX8_repair_74 rfl (by decide) rfl ?_
        obtain ⟨x8, ex8, hf⟩ := pl_l hf
        refine zg_iinc (v := x8) (L' := [(3, .int x8), (1, .int z0), (0, .ref q0), (2, .int y2)]) X dX8_repair_75 (j := 3) rfl (by rw [ex8]; rfl) (by decide) rfl ?_
        refine zg_goto (tgt := 11) X dX8_repair_78 (by decide) ?_
        refine zg_loc [2, 1, 3, 0] rfl ?_
        exact ih11 z0 y2 x8 w0 w1 w2 w3 w4 w5 w6 w7 w8 w9 w10 w11 w12 w13 w14 w15 w16 hf
      have hb61 : ∀ (y1 : Int32) (y3 : Int32) (y4 : Int32) (z0 : Int32) (w0 : (Nat → Int32)) (w1 : (Nat → Int32)) (w2 : Int32) (w3 : (Nat → Int32)) (w4 : Int32) (w5 : Int32) (w6 : (Nat → Int32)) (w7 : Int32) (w8 : (Nat → Int32)) (w9 : (Nat → Int32)) (w10 : (Nat → Int32)) (w11 : Int32) (w12 : Int32) (w13 : Int32) (w14 : Int32) (w15 : (Nat → Int32)) (w16 : Int32), zf_X8_repair_b61 fu v0 (zf_X8_repair_L11 fu v0 n11) y1 y3 y4 z0 w0 w1 w2 w3 w4 w5 w6 w7 w8 w9 w10 w11 w12 w13 w14 w15 w16 = some res → zgGd G Z ({ frames := 5, cells := 0, slots := 0, locals := 120 } : Room) 0 0 5 [(q0, .inr (7, [.ref q1, .ref q2, .int w2, .ref q3, .int w4, .int w5, .ref q4, .int w7, .ref q5, .ref q6, .ref q7, .int w11, .int w12, .int w13, .int w14, .ref q8, .int w16])), (q1, .inl (G.2.2.1, 946, .inl w0)), (q2, .inl (G.2.2.1, 5676, .inl w1)), (q3, .inl (G.2.2.1, 60, .inl w3)), (q4, .inl (G.2.2.1, 201, .inl w6)), (q5, .inl (G.2.2.1, 201, .inl w8)), (q6, .inl (G.2.2.1, 201, .inl w9)), (q7, .inl (G.2.2.1, 201, .inl w10)), (q8, .inl (G.2.2.1, 201, .inl w15))] 61 [(0, .ref q0), (1, .int y1), (3, .int y3), (4, .int y4)] [.int z0] := by
        intro y1 y3 y4 z0 w0 w1 w2 w3 w4 w5 w6 w7 w8 w9 w10 w11 w12 w13 w14 w15 w16 hf
        unfold zf_X8_repair_b61 at hf
        refine zg_istore_n (L' := [(2, .int z0), (0, .ref q0), (1, .int y1), (3, .int y3), (4, .int y4)]) X dX8_repair_61 rfl (by decide) rfl ?_
        refine zg_iload X dX8_repair_62 4 rfl ?_
        refine zg_iload_n X dX8_repair_64 rfl 2 rfl ?_
        refine zg_icmp_ge (tgt := 73) X dX8_repair_65 (by decide) (fun c7 => ?_) (fun c7 => ?_)
        · have hf := pl_t c7 hf
          refine zg_iload_n X dX8_repair_73 rfl 2 rfl ?_
          refine zg_loc [1, 0, 3] rfl ?_
          exact hb74 z0 y3 y1 w0 w1 w2 w3 w4 w5 w6 w7 w8 w9 w10 w11 w12 w13 w14 w15 w16 hf
        · have hf := pl_f c7 hf
          refine zg_iload X dX8_repair_68 4 rfl ?_
          refine zg_goto (tgt := 74) X dX8_repair_70 (by decide) ?_
          refine zg_loc [1, 0, 3] rfl ?_
          exact hb74 z0 y3 y4 w0 w1 w2 w3 w4 w5 w6 w7 w8 w9 w10 w11 w12 w13 w14 w15 w16 hf
      have hb48 : ∀ (y1 : Int32) (y2 : Int32) (y3 : Int32) (z0 : Int32) (w0 : (Nat → Int32)) (w1 : (Nat → Int32)) (w2 : Int32) (w3 : (Nat → Int32)) (w4 : Int32) (w5 : Int32) (w6 : (Nat → Int32)) (w7 : Int32) (w8 : (Nat → Int32)) (w9 : (Nat → Int32)) (w10 : (Nat → Int32)) (w11 : Int32) (w12 : Int32) (w13 : Int32) (w14 : Int32) (w15 : (Nat → Int32)) (w16 : Int32), zf_X8_repair_b48 fu v0 (zf_X8_repair_L11 fu v0 n11) y1 y2 y3 z0 w0 w1 w2 w3 w4 w5 w6 w7 w8 w9 w10 w11 w12 w13 w14 w15 w16 = some res → zgGd G Z ({ frames := 5, cells := 0, slots := 0, locals := 120 } : Room) 0 0 5 [(q0, .inr (7, [.ref q1, .ref q2, .int w2, .ref q3, .int w4, .int w5, .ref q4, .int w7, .ref q5, .ref q6, .ref q7, .int w11, .int w12, .int w13, .int w14, .ref q8, .int w16])), (q1, .inl (G.2.2.1, 946, .inl w0)), (q2, .inl (G.2.2.1, 5676, .inl w1)), (q3, .inl (G.2.2.1, 60, .inl w3)), (q4, .inl (G.2.2.1, 201, .inl w6)), (q5, .inl (G.2.2.1, 201, .inl w8)), (q6, .inl (G.2.2.1, 201, .inl w9)), (q7, .inl (G.2.2.1, 201, .inl w10)), (q8, .inl (G.2.2.1, 201, .inl w15))] 48 [(0, .ref q0), (1, .int y1), (2, .int y2), (3, .int y3)] [.int z0] := by
        intro y1 y2 y3 z0 w0 w1 w2 w3 w4 w5 w6 w7 w8 w9 w10 w11 w12 w13 w14 w15 w16 hf
        unfold zf_X8_repair_b48 at hf
        refine zg_istore (L' := [(4, .int z0), (0, .ref q0), (1, .int y1), (2, .int y2), (3, .int y3)]) X dX8_repair_48 (by decide) rfl ?_
        refine zg_iload X dX8_repair_50 0 rfl ?_
        refine zg_iload_n X dX8_repair_52 rfl 2 rfl ?_
        refine zg_icmp_ge (tgt := 60) X dX8_repair_53 (by decide) (fun c6 => ?_) (fun c6 => ?_)
        · have hf := pl_t c6 hf
          refine zg_iload_n X dX8_repair_60 rfl 3 rfl ?_
          refine zg_loc [1, 2, 4, 0] rfl ?_
          exact hb61 y1 y3 z0 y2 w0 w1 w2 w3 w4 w5 w6 w7 w8 w9 w10 w11 w12 w13 w14 w15 w16 hf
        · have hf := pl_f c6 hf
          refine zg_iload_n X dX8_repair_56 rfl 4 rfl ?_
          refine zg_goto (tgt := 61) X dX8_repair_57 (by decide) ?_
          refine zg_loc [1, 2, 4, 0] rfl ?_
          exact hb61 y1 y3 z0 y3 w0 w1 w2 w3 w4 w5 w6 w7 w8 w9 w10 w11 w12 w13 w14 w15 w16 hf
      intro y1 y2 y3 w0 w1 w2 w3 w4 w5 w6 w7 w8 w9 w10 w11 w12 w13 w14 w15 w16 hf
      rw [zf_X8_repair_L11] at hf
      refine zg_iload_n X dX8_repair_11 rfl 3 rfl ?_
      refine zg_iconst (v := 2) X dX8_repair_12 (by decide) ?_
      refine zg_aload_n X dX8_repair_13 rfl 0 rfl ?_
      refine zg_get (C := RX8) (T := TX8) (N := 17) X 0 0 hiX8 rfl rfl (by decide) hw0 rfl dX8_repair_14 ?_
      refine zg_sipush (v := 201) X dX8_repair_17 (by decide) ?_
      refine zg_iald X 1 rfl (by unfold vp_in; decide) dX8_repair_20 ?_
      obtain ⟨x2, ex2, hf⟩ := pl_l hf
      refine zg_topi ex2 ?_
      refine zg_imul X dX8_repair_21 ?_
      refine zg_iconst (v := 2) X dX8_repair_22 (by decide) ?_
      refine zg_iadd X dX8_repair_23 ?_
      refine zg_icmp_ge (tgt := 81) X dX8_repair_24 (by decide) (fun c3 => ?_) (fun c3 => ?_)
      · have hf := pl_t c3 hf
        refine zg_iload_n X dX8_repair_81 rfl 2 rfl ?_
        have hf := Option.some.inj hf
        subst hf
        exact zg_iret X hF rfl rfl () rfl rfl (Nat.le_of_ble_eq_true rfl) (Nat.le_of_ble_eq_true rfl) dX8_repair_82
      · have hf := pl_f c3 hf
        refine zg_iload_n X dX8_repair_27 rfl 1 rfl ?_
        refine zg_if_ne (tgt := 35) X dX8_repair_28 (by decide) (fun c4 => ?_) (fun c4 => ?_)
        · have hf := pl_f c4 hf
          refine zg_aload_n X dX8_repair_35 rfl 0 rfl ?_
          refine zg_iload_n X dX8_repair_36 rfl 3 rfl ?_
          refine zg_iconst (v := 2) X dX8_repair_37 (by decide) ?_
          refine zg_idiv X dX8_repair_38 (by decide) ?_
          refine zg_bipush (v := 30) X dX8_repair_39 (by decide) ?_
          refine zg_iload_n X dX8_repair_41 rfl 3 rfl ?_
          refine zg_iconst (v := 2) X dX8_repair_42 (by decide) ?_
          refine zg_irem X dX8_repair_43 (by decide) ?_
          refine zg_iadd X dX8_repair_44 ?_
          obtain ⟨b5, hb5, hf⟩ := pl_b hf
          refine zg_cU1 (ws2 := [(q0, .inr (7, [.ref q1, .ref q2, .int b5.2.2.2.1, .ref q3, .int b5.2.2.2.2.2.1, .int b5.2.2.2.2.2.2.1, .ref q4, .int b5.2.2.2.2.2.2.2.2.1, .ref q5, .ref q6, .ref q7, .int b5.2.2.2.2.2.2.2.2.2.2.2.2.1, .int b5.2.2.2.2.2.2.2.2.2.2.2.2.2.1, .int b5.2.2.2.2.2.2.2.2.2.2.2.2.2.2.1, .int b5.2.2.2.2.2.2.2.2.2.2.2.2.2.2.2.1, .ref q8, .int b5.2.2.2.2.2.2.2.2.2.2.2.2.2.2.2.2.2])), (q1, .inl (G.2.2.1, 946, .inl b5.2.1)), (q2, .inl (G.2.2.1, 5676, .inl b5.2.2.1)), (q3, .inl (G.2.2.1, 60, .inl b5.2.2.2.2.1)), (q4, .inl (G.2.2.1, 201, .inl b5.2.2.2.2.2.2.2.1)), (q5, .inl (G.2.2.1, 201, .inl b5.2.2.2.2.2.2.2.2.2.1)), (q6, .inl (G.2.2.1, 201, .inl b5.2.2.2.2.2.2.2.2.2.2.1)), (q7, .inl (G.2.2.1, 201, .inl b5.2.2.2.2.2.2.2.2.2.2.2.1)), (q8, .inl (G.2.2.1, 201, .inl b5.2.2.2.2.2.2.2.2.2.2.2.2.2.2.2.2.1))]) X (zg_runV X (zc_X8_doubtsWith G q0 q1 q2 q3 q4 q5 q6 q7 q8 (w0, w1, w2, w3, w4, w5, w6, w7, w8, w9, w10, w11, w12, w13, w14, w15, w16) (y3 / 2) ((30 : Int32) + (y3 - y3 / 2 * 2)) fu b5 hb5) gX8_repair_X8_doubtsWith rfl zh_X8_doubtsWith ⟨rfl, rfl⟩ ⟨Nat.le_of_ble_eq_true rfl, Nat.le_of_ble_eq_true rfl⟩ rfl rfl rfl (Nat.le_of_ble_eq_true rfl) ⟨Nat.le_of_ble_eq_true rfl, Nat.le_of_ble_eq_true rfl⟩ [0, 1, 2, 3, 4, 5, 6, 7, 8] (by decide) rfl rfl dX8_repair_45) rfl rfl ?_
          exact hb48 y1 y2 y3 b5.1 b5.2.1 b5.2.2.1 b5.2.2.2.1 b5.2.2.2.2.1 b5.2.2.2.2.2.1 b5.2.2.2.2.2.2.1 b5.2.2.2.2.2.2.2.1 b5.2.2.2.2.2.2.2.2.1 b5.2.2.2.2.2.2.2.2.2.1 b5.2.2.2.2.2.2.2.2.2.2.1 b5.2.2.2.2.2.2.2.2.2.2.2.1 b5.2.2.2.2.2.2.2.2.2.2.2.2.1 b5.2.2.2.2.2.2.2.2.2.2.2.2.2.1 b5.2.2.2.2.2.2.2.2.2.2.2.2.2.2.1 b5.2.2.2.2.2.2.2.2.2.2.2.2.2.2.2.1 b5.2.2.2.2.2.2.2.2.2.2.2.2.2.2.2.2.1 b5.2.2.2.2.2.2.2.2.2.2.2.2.2.2.2.2.2 hf
        · have hf := pl_t c4 hf
          refine zg_iconst (v := 0) X dX8_repair_31 (by decide) ?_
          refine zg_goto (tgt := 48) X dX8_repair_32 (by decide) ?_
          exact hb48 y1 y2 y3 0 w0 w1 w2 w3 w4 w5 w6 w7 w8 w9 w10 w11 w12 w13 w14 w15 w16 hf
  unfold zf_X8_repair at hf
  refine zg_aload_n X dX8_repair_0 rfl 0 rfl ?_
  refine zg_iconst (v := (-1)) X dX8_repair_1 (by decide) ?_
  refine zg_iconst (v := 0) X dX8_repair_2 (by decide) ?_
  obtain ⟨b1, hb1, hf⟩ := pl_b hf
  refine zg_cU1 (ws2 := [(q0, .inr (7, [.ref q1, .ref q2, .int b1.2.2.2.1, .ref q3, .int b1.2.2.2.2.2.1, .int b1.2.2.2.2.2.2.1, .ref q4, .int b1.2.2.2.2.2.2.2.2.1, .ref q5, .ref q6, .ref q7, .int b1.2.2.2.2.2.2.2.2.2.2.2.2.1, .int b1.2.2.2.2.2.2.2.2.2.2.2.2.2.1, .int b1.2.2.2.2.2.2.2.2.2.2.2.2.2.2.1, .int b1.2.2.2.2.2.2.2.2.2.2.2.2.2.2.2.1, .ref q8, .int b1.2.2.2.2.2.2.2.2.2.2.2.2.2.2.2.2.2])), (q1, .inl (G.2.2.1, 946, .inl b1.2.1)), (q2, .inl (G.2.2.1, 5676, .inl b1.2.2.1)), (q3, .inl (G.2.2.1, 60, .inl b1.2.2.2.2.1)), (q4, .inl (G.2.2.1, 201, .inl b1.2.2.2.2.2.2.2.1)), (q5, .inl (G.2.2.1, 201, .inl b1.2.2.2.2.2.2.2.2.2.1)), (q6, .inl (G.2.2.1, 201, .inl b1.2.2.2.2.2.2.2.2.2.2.1)), (q7, .inl (G.2.2.1, 201, .inl b1.2.2.2.2.2.2.2.2.2.2.2.1)), (q8, .inl (G.2.2.1, 201, .inl b1.2.2.2.2.2.2.2.2.2.2.2.2.2.2.2.2.1))]) X (zg_runV X (zc_X8_doubtsWith G q0 q1 q2 q3 q4 q5 q6 q7 q8 v0 (-1) 0 fu b1 hb1) gX8_repair_X8_doubtsWith rfl zh_X8_doubtsWith ⟨rfl, rfl⟩ ⟨Nat.le_of_ble_eq_true rfl, Nat.le_of_ble_eq_true rfl⟩ rfl rfl rfl (Nat.le_of_ble_eq_true rfl) ⟨Nat.le_of_ble_eq_true rfl, Nat.le_of_ble_eq_true rfl⟩ [0, 1, 2, 3, 4, 5, 6, 7, 8] (by decide) rfl rfl dX8_repair_3) rfl rfl ?_
  refine zg_istore_n (L' := [(1, .int b1.1), (0, .ref q0)]) X dX8_repair_6 rfl (by decide) rfl ?_
  refine zg_iconst (v := (-1)) X dX8_repair_7 (by decide) ?_
  refine zg_istore_n (L' := [(2, .int (-1)), (1, .int b1.1), (0, .ref q0)]) X dX8_repair_8 rfl (by decide) rfl ?_
  refine zg_iconst (v := 0) X dX8_repair_9 (by decide) ?_
  refine zg_istore_n (L' := [(3, .int 0), (2, .int (-1)), (1, .int b1.1), (0, .ref q0)]) X dX8_repair_10 rfl (by decide) rfl ?_
  refine zg_loc [3, 2, 1, 0] rfl ?_
  exact hL11 fu b1.1 (-1) 0 b1.2.1 b1.2.2.1 b1.2.2.2.1 b1.2.2.2.2.1 b1.2.2.2.2.2.1 b1.2.2.2.2.2.2.1 b1.2.2.2.2.2.2.2.1 b1.2.2.2.2.2.2.2.2.1 b1.2.2.2.2.2.2.2.2.2.1 b1.2.2.2.2.2.2.2.2.2.2.1 b1.2.2.2.2.2.2.2.2.2.2.2.1 b1.2.2.2.2.2.2.2.2.2.2.2.2.1 b1.2.2.2.2.2.2.2.2.2.2.2.2.2.1 b1.2.2.2.2.2.2.2.2.2.2.2.2.2.2.1 b1.2.2.2.2.2.2.2.2.2.2.2.2.2.2.2.1 b1.2.2.2.2.2.2.2.2.2.2.2.2.2.2.2.2.1 b1.2.2.2.2.2.2.2.2.2.2.2.2.2.2.2.2.2 hf
theorem zh_X8_bestRepair : yX8_bestRepair.cls = RX8 ∧ yX8_bestRepair.cls ≠ "java/lang/invoke/MethodHandle" ∧ yX8_bestRepair.cls ≠ "java/lang/invoke/VarHandle" ∧ (parseMethodDescriptor yX8_bestRepair.desc).map (fun d => d.parameters.length) = some 0 := by decide +kernel
set_option maxHeartbeats 8000000 in
set_option maxRecDepth 100000 in
theorem zc_X8_bestRepair (G : zgG) (q0 q1 q2 q3 q4 q5 q6 q7 q8 : Nat) (v0 : zModel) (fu : Nat) (res : (Int32 × zModel)) (hf : zf_X8_bestRepair fu v0 = some res) : zgCt G yX8_bestRepair wsX8_bestRepair ({ frames := 6, cells := 0, slots := 0, locals := 144 } : Room) [.ref q0] [(q0, .inr (7, [.ref q1, .ref q2, .int v0.2.2.1, .ref q3, .int v0.2.2.2.2.1, .int v0.2.2.2.2.2.1, .ref q4, .int v0.2.2.2.2.2.2.2.1, .ref q5, .ref q6, .ref q7, .int v0.2.2.2.2.2.2.2.2.2.2.2.1, .int v0.2.2.2.2.2.2.2.2.2.2.2.2.1, .int v0.2.2.2.2.2.2.2.2.2.2.2.2.2.1, .int v0.2.2.2.2.2.2.2.2.2.2.2.2.2.2.1, .ref q8, .int v0.2.2.2.2.2.2.2.2.2.2.2.2.2.2.2.2])), (q1, .inl (G.2.2.1, 946, .inl v0.1)), (q2, .inl (G.2.2.1, 5676, .inl v0.2.1)), (q3, .inl (G.2.2.1, 60, .inl v0.2.2.2.1)), (q4, .inl (G.2.2.1, 201, .inl v0.2.2.2.2.2.2.1)), (q5, .inl (G.2.2.1, 201, .inl v0.2.2.2.2.2.2.2.2.1)), (q6, .inl (G.2.2.1, 201, .inl v0.2.2.2.2.2.2.2.2.2.1)), (q7, .inl (G.2.2.1, 201, .inl v0.2.2.2.2.2.2.2.2.2.2.1)), (q8, .inl (G.2.2.1, 201, .inl v0.2.2.2.2.2.2.2.2.2.2.2.2.2.2.2.1))] (fun _ : Unit => some (.int res.1)) (fun _ => [(q0, .inr (7, [.ref q1, .ref q2, .int res.2.2.2.1, .ref q3, .int res.2.2.2.2.2.1, .int res.2.2.2.2.2.2.1, .ref q4, .int res.2.2.2.2.2.2.2.2.1, .ref q5, .ref q6, .ref q7, .int res.2.2.2.2.2.2.2.2.2.2.2.2.1, .int res.2.2.2.2.2.2.2.2.2.2.2.2.2.1, .int res.2.2.2.2.2.2.2.2.2.2.2.2.2.2.1, .int res.2.2.2.2.2.2.2.2.2.2.2.2.2.2.2.1, .ref q8, .int res.2.2.2.2.2.2.2.2.2.2.2.2.2.2.2.2.2])), (q1, .inl (G.2.2.1, 946, .inl res.2.1)), (q2, .inl (G.2.2.1, 5676, .inl res.2.2.1)), (q3, .inl (G.2.2.1, 60, .inl res.2.2.2.2.1)), (q4, .inl (G.2.2.1, 201, .inl res.2.2.2.2.2.2.2.1)), (q5, .inl (G.2.2.1, 201, .inl res.2.2.2.2.2.2.2.2.2.1)), (q6, .inl (G.2.2.1, 201, .inl res.2.2.2.2.2.2.2.2.2.2.1)), (q7, .inl (G.2.2.1, 201, .inl res.2.2.2.2.2.2.2.2.2.2.2.1)), (q8, .inl (G.2.2.1, 201, .inl res.2.2.2.2.2.2.2.2.2.2.2.2.2.2.2.2.1))]) 0 0 := by
  have hw0 : Cond.fieldLink RX8 38 "TelexReceiverModel" "thrown" "I" ∈ wsX8_bestRepair := by decide +kernel
  have hiX8 : ∀ w ∈ u_ws RX8 TX8 17, w ∈ wsX8_bestRepair := by decide +kernel
  refine zg_of (own := RX8) (cc := cX8_bestRepair) (nL := 1) (ret := (some .int)) (by decide +kernel) rfl rfl (Nat.le_of_ble_eq_true rfl) (fun Z X hF => ?_)
  show zgGd G Z _ 0 0 1 _ 0 [(0, .ref q0)] []
  unfold zf_X8_bestRepair at hf
  refine zg_aload_n X dX8_bestRepair_0 rfl 0 rfl ?_
  refine zg_iconst (v := 0) X dX8_bestRepair_1 (by decide) ?_
  refine zg_put (C := RX8) (T := TX8) (N := 17) (ty := .int) (ws' := [(q0, .inr (7, [.ref q1, .ref q2, .int v0.2.2.1, .ref q3, .int v0.2.2.2.2.1, .int 0, .ref q4, .int v0.2.2.2.2.2.2.2.1, .ref q5, .ref q6, .ref q7, .int v0.2.2.2.2.2.2.2.2.2.2.2.1, .int v0.2.2.2.2.2.2.2.2.2.2.2.2.1, .int v0.2.2.2.2.2.2.2.2.2.2.2.2.2.1, .int v0.2.2.2.2.2.2.2.2.2.2.2.2.2.2.1, .ref q8, .int v0.2.2.2.2.2.2.2.2.2.2.2.2.2.2.2.2])), (q1, .inl (G.2.2.1, 946, .inl v0.1)), (q2, .inl (G.2.2.1, 5676, .inl v0.2.1)), (q3, .inl (G.2.2.1, 60, .inl v0.2.2.2.1)), (q4, .inl (G.2.2.1, 201, .inl v0.2.2.2.2.2.2.1)), (q5, .inl (G.2.2.1, 201, .inl v0.2.2.2.2.2.2.2.2.1)), (q6, .inl (G.2.2.1, 201, .inl v0.2.2.2.2.2.2.2.2.2.1)), (q7, .inl (G.2.2.1, 201, .inl v0.2.2.2.2.2.2.2.2.2.2.1)), (q8, .inl (G.2.2.1, 201, .inl v0.2.2.2.2.2.2.2.2.2.2.2.2.2.2.2.1))]) X 0 5 hiX8 tyX8 tyX8_ok nmX8 rfl rfl (by decide) hw0 rfl (by decide +kernel) rfl rfl (Nat.le_of_ble_eq_true rfl) rfl dX8_bestRepair_2 ?_
  refine zg_aload_n X dX8_bestRepair_5 rfl 0 rfl ?_
  obtain ⟨b1, hb1, hf⟩ := pl_b hf
  refine zg_cU1 (ws2 := [(q0, .inr (7, [.ref q1, .ref q2, .int b1.2.2.2.1, .ref q3, .int b1.2.2.2.2.2.1, .int b1.2.2.2.2.2.2.1, .ref q4, .int b1.2.2.2.2.2.2.2.2.1, .ref q5, .ref q6, .ref q7, .int b1.2.2.2.2.2.2.2.2.2.2.2.2.1, .int b1.2.2.2.2.2.2.2.2.2.2.2.2.2.1, .int b1.2.2.2.2.2.2.2.2.2.2.2.2.2.2.1, .int b1.2.2.2.2.2.2.2.2.2.2.2.2.2.2.2.1, .ref q8, .int b1.2.2.2.2.2.2.2.2.2.2.2.2.2.2.2.2.2])), (q1, .inl (G.2.2.1, 946, .inl b1.2.1)), (q2, .inl (G.2.2.1, 5676, .inl b1.2.2.1)), (q3, .inl (G.2.2.1, 60, .inl b1.2.2.2.2.1)), (q4, .inl (G.2.2.1, 201, .inl b1.2.2.2.2.2.2.2.1)), (q5, .inl (G.2.2.1, 201, .inl b1.2.2.2.2.2.2.2.2.2.1)), (q6, .inl (G.2.2.1, 201, .inl b1.2.2.2.2.2.2.2.2.2.2.1)), (q7, .inl (G.2.2.1, 201, .inl b1.2.2.2.2.2.2.2.2.2.2.2.1)), (q8, .inl (G.2.2.1, 201, .inl b1.2.2.2.2.2.2.2.2.2.2.2.2.2.2.2.2.1))]) X (zg_runV X (zc_X8_repair G q0 q1 q2 q3 q4 q5 q6 q7 q8 (v0.1, v0.2.1, v0.2.2.1, v0.2.2.2.1, v0.2.2.2.2.1, 0, v0.2.2.2.2.2.2.1, v0.2.2.2.2.2.2.2.1, v0.2.2.2.2.2.2.2.2.1, v0.2.2.2.2.2.2.2.2.2.1, v0.2.2.2.2.2.2.2.2.2.2.1, v0.2.2.2.2.2.2.2.2.2.2.2.1, v0.2.2.2.2.2.2.2.2.2.2.2.2.1, v0.2.2.2.2.2.2.2.2.2.2.2.2.2.1, v0.2.2.2.2.2.2.2.2.2.2.2.2.2.2.1, v0.2.2.2.2.2.2.2.2.2.2.2.2.2.2.2.1, v0.2.2.2.2.2.2.2.2.2.2.2.2.2.2.2.2) fu b1 hb1) gX8_bestRepair_X8_repair rfl zh_X8_repair ⟨rfl, rfl⟩ ⟨Nat.le_of_ble_eq_true rfl, Nat.le_of_ble_eq_true rfl⟩ rfl rfl rfl (Nat.le_of_ble_eq_true rfl) ⟨Nat.le_of_ble_eq_true rfl, Nat.le_of_ble_eq_true rfl⟩ [0, 1, 2, 3, 4, 5, 6, 7, 8] (by decide) rfl rfl dX8_bestRepair_6) rfl rfl ?_
  have hf := Option.some.inj hf
  subst hf
  exact zg_iret X hF rfl rfl () rfl rfl (Nat.le_of_ble_eq_true rfl) (Nat.le_of_ble_eq_true rfl) dX8_bestRepair_9
theorem zh_X8_undo : yX8_undo.cls = RX8 ∧ yX8_undo.cls ≠ "java/lang/invoke/MethodHandle" ∧ yX8_undo.cls ≠ "java/lang/invoke/VarHandle" ∧ (parseMethodDescriptor yX8_undo.desc).map (fun d => d.parameters.length) = some 0 := by decide +kernel
set_option maxHeartbeats 8000000 in
set_option maxRecDepth 100000 in
theorem zc_X8_undo (G : zgG) (q0 q1 q2 q3 q4 q5 q6 q7 q8 : Nat) (v0 : zModel) (fu : Nat) (res : (Int32 × zModel)) (hf : zf_X8_undo fu v0 = some res) : zgCt G yX8_undo wsX8_undo ({ frames := 1, cells := 0, slots := 0, locals := 21 } : Room) [.ref q0] [(q0, .inr (7, [.ref q1, .ref q2, .int v0.2.2.1, .ref q3, .int v0.2.2.2.2.1, .int v0.2.2.2.2.2.1, .ref q4, .int v0.2.2.2.2.2.2.2.1, .ref q5, .ref q6, .ref q7, .int v0.2.2.2.2.2.2.2.2.2.2.2.1, .int v0.2.2.2.2.2.2.2.2.2.2.2.2.1, .int v0.2.2.2.2.2.2.2.2.2.2.2.2.2.1, .int v0.2.2.2.2.2.2.2.2.2.2.2.2.2.2.1, .ref q8, .int v0.2.2.2.2.2.2.2.2.2.2.2.2.2.2.2.2])), (q1, .inl (G.2.2.1, 946, .inl v0.1)), (q2, .inl (G.2.2.1, 5676, .inl v0.2.1)), (q3, .inl (G.2.2.1, 60, .inl v0.2.2.2.1)), (q4, .inl (G.2.2.1, 201, .inl v0.2.2.2.2.2.2.1)), (q5, .inl (G.2.2.1, 201, .inl v0.2.2.2.2.2.2.2.2.1)), (q6, .inl (G.2.2.1, 201, .inl v0.2.2.2.2.2.2.2.2.2.1)), (q7, .inl (G.2.2.1, 201, .inl v0.2.2.2.2.2.2.2.2.2.2.1)), (q8, .inl (G.2.2.1, 201, .inl v0.2.2.2.2.2.2.2.2.2.2.2.2.2.2.2.1))] (fun _ : Unit => some (.int res.1)) (fun _ => [(q0, .inr (7, [.ref q1, .ref q2, .int res.2.2.2.1, .ref q3, .int res.2.2.2.2.2.1, .int res.2.2.2.2.2.2.1, .ref q4, .int res.2.2.2.2.2.2.2.2.1, .ref q5, .ref q6, .ref q7, .int res.2.2.2.2.2.2.2.2.2.2.2.2.1, .int res.2.2.2.2.2.2.2.2.2.2.2.2.2.1, .int res.2.2.2.2.2.2.2.2.2.2.2.2.2.2.1, .int res.2.2.2.2.2.2.2.2.2.2.2.2.2.2.2.1, .ref q8, .int res.2.2.2.2.2.2.2.2.2.2.2.2.2.2.2.2.2])), (q1, .inl (G.2.2.1, 946, .inl res.2.1)), (q2, .inl (G.2.2.1, 5676, .inl res.2.2.1)), (q3, .inl (G.2.2.1, 60, .inl res.2.2.2.2.1)), (q4, .inl (G.2.2.1, 201, .inl res.2.2.2.2.2.2.2.1)), (q5, .inl (G.2.2.1, 201, .inl res.2.2.2.2.2.2.2.2.2.1)), (q6, .inl (G.2.2.1, 201, .inl res.2.2.2.2.2.2.2.2.2.2.1)), (q7, .inl (G.2.2.1, 201, .inl res.2.2.2.2.2.2.2.2.2.2.2.1)), (q8, .inl (G.2.2.1, 201, .inl res.2.2.2.2.2.2.2.2.2.2.2.2.2.2.2.2.1))]) 0 0 := by
  have hw0 : Cond.fieldLink RX8 41 "TelexReceiverModel" "saved" "I" ∈ wsX8_undo := by decide +kernel
  have hw1 : Cond.fieldLink RX8 7 "TelexReceiverModel" "s" "[I" ∈ wsX8_undo := by decide +kernel
  have hw2 : Cond.fieldLink RX8 13 "TelexReceiverModel" "before" "[I" ∈ wsX8_undo := by decide +kernel
  have hiX8 : ∀ w ∈ u_ws RX8 TX8 17, w ∈ wsX8_undo := by decide +kernel
  refine zg_of (own := RX8) (cc := cX8_undo) (nL := 2) (ret := (some .int)) (by decide +kernel) rfl rfl (Nat.le_of_ble_eq_true rfl) (fun Z X hF => ?_)
  show zgGd G Z _ 0 0 2 _ 0 [(0, .ref q0)] []
  have hL33 : ∀ (n : Nat) (y1 : Int32) (w0 : (Nat → Int32)) (w1 : (Nat → Int32)) (w2 : Int32) (w3 : (Nat → Int32)) (w4 : Int32) (w5 : Int32) (w6 : (Nat → Int32)) (w7 : Int32) (w8 : (Nat → Int32)) (w9 : (Nat → Int32)) (w10 : (Nat → Int32)) (w11 : Int32) (w12 : Int32) (w13 : Int32) (w14 : Int32) (w15 : (Nat → Int32)) (w16 : Int32), zf_X8_undo_L33 fu v0 n y1 w0 w1 w2 w3 w4 w5 w6 w7 w8 w9 w10 w11 w12 w13 w14 w15 w16 = some res → zgGd G Z ({ frames := 1, cells := 0, slots := 0, locals := 21 } : Room) 0 0 2 [(q0, .inr (7, [.ref q1, .ref q2, .int w2, .ref q3, .int w4, .int w5, .ref q4, .int w7, .ref q5, .ref q6, .ref q7, .int w11, .int w12, .int w13, .int w14, .ref q8, .int w16])), (q1, .inl (G.2.2.1, 946, .inl w0)), (q2, .inl (G.2.2.1, 5676, .inl w1)), (q3, .inl (G.2.2.1, 60, .inl w3)), (q4, .inl (G.2.2.1, 201, .inl w6)), (q5, .inl (G.2.2.1, 201, .inl w8)), (q6, .inl (G.2.2.1, 201, .inl w9)), (q7, .inl (G.2.2.1, 201, .inl w10)), (q8, .inl (G.2.2.1, 201, .inl w15))] 33 [(0, .ref q0), (1, .int y1)] [] := by
    intro n
    induction n with
    | zero =>
      intro y1 w0 w1 w2 w3 w4 w5 w6 w7 w8 w9 w10 w11 w12 w13 w14 w15 w16 hf
      rw [zf_X8_undo_L33] at hf
      cases hf
    | succ n33 ih33 =>
      intro y1 w0 w1 w2 w3 w4 w5 w6 w7 w8 w9 w10 w11 w12 w13 w14 w15 w16 hf
      rw [zf_X8_undo_L33] at hf
      refine zg_iload_n X dX8_undo_33 rfl 1 rfl ?_
      refine zg_sipush (v := 946) X dX8_undo_34 (by decide) ?_
      refine zg_icmp_ge (tgt := 67) X dX8_undo_37 (by decide) (fun c5 => ?_) (fun c5 => ?_)
      · have hf := pl_t c5 hf
        refine zg_aload_n X dX8_undo_67 rfl 0 rfl ?_
        refine zg_get (C := RX8) (T := TX8) (N := 17) X 0 2 hiX8 rfl rfl (by decide) hw0 rfl dX8_undo_68 ?_
        have hf := Option.some.inj hf
        subst hf
        exact zg_iret X hF rfl rfl () rfl rfl (Nat.le_of_ble_eq_true rfl) (Nat.le_of_ble_eq_true rfl) dX8_undo_71
      · have hf := pl_f c5 hf
        refine zg_aload_n X dX8_undo_40 rfl 0 rfl ?_
        refine zg_get (C := RX8) (T := TX8) (N := 17) X 0 0 hiX8 rfl rfl (by decide) hw1 rfl dX8_undo_41 ?_
        refine zg_iload_n X dX8_undo_44 rfl 1 rfl ?_
        refine zg_aload_n X dX8_undo_45 rfl 0 rfl ?_
        refine zg_get (C := RX8) (T := TX8) (N := 17) X 0 1 hiX8 rfl rfl (by decide) hw2 rfl dX8_undo_46 ?_
        refine zg_sipush (v := 946) X dX8_undo_49 (by decide) ?_
        refine zg_aload_n X dX8_undo_52 rfl 0 rfl ?_
        refine zg_get (C := RX8) (T := TX8) (N := 17) X 0 2 hiX8 rfl rfl (by decide) hw0 rfl dX8_undo_53 ?_
        refine zg_imul X dX8_undo_56 ?_
        refine zg_iload_n X dX8_undo_57 rfl 1 rfl ?_
        refine zg_iadd X dX8_undo_58 ?_
        obtain ⟨x6, ex6, hf⟩ := pl_l hf
        refine zg_topi ex6 ?_
        obtain ⟨hin, hf⟩ := pl_in hf
        refine zg_iald X 2 rfl hin dX8_undo_59 ?_
        obtain ⟨x7, ex7, hf⟩ := pl_l hf
        refine zg_topi ex7 ?_
        obtain ⟨hin, hf⟩ := pl_in hf
        obtain ⟨f8, ef8, hf⟩ := pl_l hf
        refine zg_iast (ws' := [(q0, .inr (7, [.ref q1, .ref q2, .int w2, .ref q3, .int w4, .int w5, .ref q4, .int w7, .ref q5, .ref q6, .ref q7, .int w11, .int w12, .int w13, .int w14, .ref q8, .int w16])), (q1, .inl (G.2.2.1, 946, .inl f8)), (q2, .inl (G.2.2.1, 5676, .inl w1)), (q3, .inl (G.2.2.1, 60, .inl w3)), (q4, .inl (G.2.2.1, 201, .inl w6)), (q5, .inl (G.2.2.1, 201, .inl w8)), (q6, .inl (G.2.2.1, 201, .inl w9)), (q7, .inl (G.2.2.1, 201, .inl w10)), (q8, .inl (G.2.2.1, 201, .inl w15))]) X 1 rfl hin (by subst ef8; rfl) dX8_undo_60 ?_
        obtain ⟨x9, ex9, hf⟩ := pl_l hf
        refine zg_iinc (v := x9) (L' := [(1, .int x9), (0, .ref q0)]) X dX8_undo_61 (j := 1) rfl (by rw [ex9]; rfl) (by decide) rfl ?_
        refine zg_goto (tgt := 33) X dX8_undo_64 (by decide) ?_
        refine zg_loc [1, 0] rfl ?_
        exact ih33 x9 f8 w1 w2 w3 w4 w5 w6 w7 w8 w9 w10 w11 w12 w13 w14 w15 w16 hf
  have hb13 : ∀ (z1 : Int32) (w0 : (Nat → Int32)) (w1 : (Nat → Int32)) (w2 : Int32) (w3 : (Nat → Int32)) (w4 : Int32) (w5 : Int32) (w6 : (Nat → Int32)) (w7 : Int32) (w8 : (Nat → Int32)) (w9 : (Nat → Int32)) (w10 : (Nat → Int32)) (w11 : Int32) (w12 : Int32) (w13 : Int32) (w14 : Int32) (w15 : (Nat → Int32)) (w16 : Int32), zf_X8_undo_b13 fu v0 z1 w0 w1 w2 w3 w4 w5 w6 w7 w8 w9 w10 w11 w12 w13 w14 w15 w16 = some res → zgGd G Z ({ frames := 1, cells := 0, slots := 0, locals := 21 } : Room) 0 0 2 [(q0, .inr (7, [.ref q1, .ref q2, .int w2, .ref q3, .int w4, .int w5, .ref q4, .int w7, .ref q5, .ref q6, .ref q7, .int w11, .int w12, .int w13, .int w14, .ref q8, .int w16])), (q1, .inl (G.2.2.1, 946, .inl w0)), (q2, .inl (G.2.2.1, 5676, .inl w1)), (q3, .inl (G.2.2.1, 60, .inl w3)), (q4, .inl (G.2.2.1, 201, .inl w6)), (q5, .inl (G.2.2.1, 201, .inl w8)), (q6, .inl (G.2.2.1, 201, .inl w9)), (q7, .inl (G.2.2.1, 201, .inl w10)), (q8, .inl (G.2.2.1, 201, .inl w15))] 13 [(0, .ref q0)] [.int z1, .ref q0] := by
    intro z1 w0 w1 w2 w3 w4 w5 w6 w7 w8 w9 w10 w11 w12 w13 w14 w15 w16 hf
    unfold zf_X8_undo_b13 at hf
    obtain ⟨b2, hb2, hf⟩ := pl_b hf
    refine zg_cU1 (ws2 := [(q0, .inr (7, [.ref q1, .ref q2, .int b2.2.2.2.1, .ref q3, .int b2.2.2.2.2.2.1, .int b2.2.2.2.2.2.2.1, .ref q4, .int b2.2.2.2.2.2.2.2.2.1, .ref q5, .ref q6, .ref q7, .int b2.2.2.2.2.2.2.2.2.2.2.2.2.1, .int b2.2.2.2.2.2.2.2.2.2.2.2.2.2.1, .int b2.2.2.2.2.2.2.2.2.2.2.2.2.2.2.1, .int b2.2.2.2.2.2.2.2.2.2.2.2.2.2.2.2.1, .ref q8, .int b2.2.2.2.2.2.2.2.2.2.2.2.2.2.2.2.2.2])), (q1, .inl (G.2.2.1, 946, .inl b2.2.1)), (q2, .inl (G.2.2.1, 5676, .inl b2.2.2.1)), (q3, .inl (G.2.2.1, 60, .inl b2.2.2.2.2.1)), (q4, .inl (G.2.2.1, 201, .inl b2.2.2.2.2.2.2.2.1)), (q5, .inl (G.2.2.1, 201, .inl b2.2.2.2.2.2.2.2.2.2.1)), (q6, .inl (G.2.2.1, 201, .inl b2.2.2.2.2.2.2.2.2.2.2.1)), (q7, .inl (G.2.2.1, 201, .inl b2.2.2.2.2.2.2.2.2.2.2.2.1)), (q8, .inl (G.2.2.1, 201, .inl b2.2.2.2.2.2.2.2.2.2.2.2.2.2.2.2.2.1))]) X (zg_runV X (zc_X8_refused G q0 q1 q2 q3 q4 q5 q6 q7 q8 (w0, w1, w2, w3, w4, w5, w6, w7, w8, w9, w10, w11, w12, w13, w14, w15, w16) z1 fu b2 hb2) gX8_undo_X8_refused rfl zh_X8_refused ⟨rfl, rfl⟩ ⟨Nat.le_of_ble_eq_true rfl, Nat.le_of_ble_eq_true rfl⟩ rfl rfl rfl (Nat.le_of_ble_eq_true rfl) ⟨Nat.le_of_ble_eq_true rfl, Nat.le_of_ble_eq_true rfl⟩ [0, 1, 2, 3, 4, 5, 6, 7, 8] (by decide) rfl rfl dX8_undo_13) rfl rfl ?_
    refine zg_if_eq (tgt := 21) X dX8_undo_16 (by decide) (fun c3 => ?_) (fun c3 => ?_)
    · have hf := pl_t c3 hf
      refine zg_aload_n X dX8_undo_21 rfl 0 rfl ?_
      refine zg_dup X dX8_undo_22 rfl ?_
      refine zg_get (C := RX8) (T := TX8) (N := 17) X 0 2 hiX8 rfl rfl (by decide) hw0 rfl dX8_undo_23 ?_
      refine zg_iconst (v := 1) X dX8_undo_26 (by decide) ?_
      refine zg_isub X dX8_undo_27 ?_
      obtain ⟨x4, ex4, hf⟩ := pl_l hf
      refine zg_topi ex4 ?_
      refine zg_put (C := RX8) (T := TX8) (N := 17) (ty := .int) (ws' := [(q0, .inr (7, [.ref q1, .ref q2, .int x4, .ref q3, .int b2.2.2.2.2.2.1, .int b2.2.2.2.2.2.2.1, .ref q4, .int b2.2.2.2.2.2.2.2.2.1, .ref q5, .ref q6, .ref q7, .int b2.2.2.2.2.2.2.2.2.2.2.2.2.1, .int b2.2.2.2.2.2.2.2.2.2.2.2.2.2.1, .int b2.2.2.2.2.2.2.2.2.2.2.2.2.2.2.1, .int b2.2.2.2.2.2.2.2.2.2.2.2.2.2.2.2.1, .ref q8, .int b2.2.2.2.2.2.2.2.2.2.2.2.2.2.2.2.2.2])), (q1, .inl (G.2.2.1, 946, .inl b2.2.1)), (q2, .inl (G.2.2.1, 5676, .inl b2.2.2.1)), (q3, .inl (G.2.2.1, 60, .inl b2.2.2.2.2.1)), (q4, .inl (G.2.2.1, 201, .inl b2.2.2.2.2.2.2.2.1)), (q5, .inl (G.2.2.1, 201, .inl b2.2.2.2.2.2.2.2.2.2.1)), (q6, .inl (G.2.2.1, 201, .inl b2.2.2.2.2.2.2.2.2.2.2.1)), (q7, .inl (G.2.2.1, 201, .inl b2.2.2.2.2.2.2.2.2.2.2.2.1)), (q8, .inl (G.2.2.1, 201, .inl b2.2.2.2.2.2.2.2.2.2.2.2.2.2.2.2.2.1))]) X 0 2 hiX8 tyX8 tyX8_ok nmX8 rfl rfl (by decide) hw0 rfl (by decide +kernel) rfl rfl (Nat.le_of_ble_eq_true rfl) rfl dX8_undo_28 ?_
      refine zg_iconst (v := 0) X dX8_undo_31 (by decide) ?_
      refine zg_istore_n (L' := [(1, .int 0), (0, .ref q0)]) X dX8_undo_32 rfl (by decide) rfl ?_
      refine zg_loc [1, 0] rfl ?_
      exact hL33 fu 0 b2.2.1 b2.2.2.1 x4 b2.2.2.2.2.1 b2.2.2.2.2.2.1 b2.2.2.2.2.2.2.1 b2.2.2.2.2.2.2.2.1 b2.2.2.2.2.2.2.2.2.1 b2.2.2.2.2.2.2.2.2.2.1 b2.2.2.2.2.2.2.2.2.2.2.1 b2.2.2.2.2.2.2.2.2.2.2.2.1 b2.2.2.2.2.2.2.2.2.2.2.2.2.1 b2.2.2.2.2.2.2.2.2.2.2.2.2.2.1 b2.2.2.2.2.2.2.2.2.2.2.2.2.2.2.1 b2.2.2.2.2.2.2.2.2.2.2.2.2.2.2.2.1 b2.2.2.2.2.2.2.2.2.2.2.2.2.2.2.2.2.1 b2.2.2.2.2.2.2.2.2.2.2.2.2.2.2.2.2.2 hf
    · have hf := pl_f c3 hf
      refine zg_iconst (v := 0) X dX8_undo_19 (by decide) ?_
      have hf := Option.some.inj hf
      subst hf
      exact zg_iret X hF rfl rfl () rfl rfl (Nat.le_of_ble_eq_true rfl) (Nat.le_of_ble_eq_true rfl) dX8_undo_20
  unfold zf_X8_undo at hf
  refine zg_aload_n X dX8_undo_0 rfl 0 rfl ?_
  refine zg_aload_n X dX8_undo_1 rfl 0 rfl ?_
  refine zg_get (C := RX8) (T := TX8) (N := 17) X 0 2 hiX8 rfl rfl (by decide) hw0 rfl dX8_undo_2 ?_
  refine zg_if_ne (tgt := 12) X dX8_undo_5 (by decide) (fun c1 => ?_) (fun c1 => ?_)
  · have hf := pl_f c1 hf
    refine zg_iconst (v := 0) X dX8_undo_12 (by decide) ?_
    exact hb13 0 v0.1 v0.2.1 v0.2.2.1 v0.2.2.2.1 v0.2.2.2.2.1 v0.2.2.2.2.2.1 v0.2.2.2.2.2.2.1 v0.2.2.2.2.2.2.2.1 v0.2.2.2.2.2.2.2.2.1 v0.2.2.2.2.2.2.2.2.2.1 v0.2.2.2.2.2.2.2.2.2.2.1 v0.2.2.2.2.2.2.2.2.2.2.2.1 v0.2.2.2.2.2.2.2.2.2.2.2.2.1 v0.2.2.2.2.2.2.2.2.2.2.2.2.2.1 v0.2.2.2.2.2.2.2.2.2.2.2.2.2.2.1 v0.2.2.2.2.2.2.2.2.2.2.2.2.2.2.2.1 v0.2.2.2.2.2.2.2.2.2.2.2.2.2.2.2.2 hf
  · have hf := pl_t c1 hf
    refine zg_iconst (v := 1) X dX8_undo_8 (by decide) ?_
    refine zg_goto (tgt := 13) X dX8_undo_9 (by decide) ?_
    exact hb13 1 v0.1 v0.2.1 v0.2.2.1 v0.2.2.2.1 v0.2.2.2.2.1 v0.2.2.2.2.2.1 v0.2.2.2.2.2.2.1 v0.2.2.2.2.2.2.2.1 v0.2.2.2.2.2.2.2.2.1 v0.2.2.2.2.2.2.2.2.2.1 v0.2.2.2.2.2.2.2.2.2.2.1 v0.2.2.2.2.2.2.2.2.2.2.2.1 v0.2.2.2.2.2.2.2.2.2.2.2.2.1 v0.2.2.2.2.2.2.2.2.2.2.2.2.2.1 v0.2.2.2.2.2.2.2.2.2.2.2.2.2.2.1 v0.2.2.2.2.2.2.2.2.2.2.2.2.2.2.2.1 v0.2.2.2.2.2.2.2.2.2.2.2.2.2.2.2.2 hf
theorem zh_X8_savedStates : yX8_savedStates.cls = RX8 ∧ yX8_savedStates.cls ≠ "java/lang/invoke/MethodHandle" ∧ yX8_savedStates.cls ≠ "java/lang/invoke/VarHandle" ∧ (parseMethodDescriptor yX8_savedStates.desc).map (fun d => d.parameters.length) = some 0 := by decide +kernel
set_option maxHeartbeats 8000000 in
set_option maxRecDepth 100000 in
theorem zc_X8_savedStates (G : zgG) (q0 q1 q2 q3 q4 q5 q6 q7 q8 : Nat) (v0 : zModel) (fu : Nat) (res : (Int32 × zModel)) (hf : zf_X8_savedStates fu v0 = some res) : zgCt G yX8_savedStates wsX8_savedStates ({ frames := 0, cells := 0, slots := 0, locals := 0 } : Room) [.ref q0] [(q0, .inr (7, [.ref q1, .ref q2, .int v0.2.2.1, .ref q3, .int v0.2.2.2.2.1, .int v0.2.2.2.2.2.1, .ref q4, .int v0.2.2.2.2.2.2.2.1, .ref q5, .ref q6, .ref q7, .int v0.2.2.2.2.2.2.2.2.2.2.2.1, .int v0.2.2.2.2.2.2.2.2.2.2.2.2.1, .int v0.2.2.2.2.2.2.2.2.2.2.2.2.2.1, .int v0.2.2.2.2.2.2.2.2.2.2.2.2.2.2.1, .ref q8, .int v0.2.2.2.2.2.2.2.2.2.2.2.2.2.2.2.2])), (q1, .inl (G.2.2.1, 946, .inl v0.1)), (q2, .inl (G.2.2.1, 5676, .inl v0.2.1)), (q3, .inl (G.2.2.1, 60, .inl v0.2.2.2.1)), (q4, .inl (G.2.2.1, 201, .inl v0.2.2.2.2.2.2.1)), (q5, .inl (G.2.2.1, 201, .inl v0.2.2.2.2.2.2.2.2.1)), (q6, .inl (G.2.2.1, 201, .inl v0.2.2.2.2.2.2.2.2.2.1)), (q7, .inl (G.2.2.1, 201, .inl v0.2.2.2.2.2.2.2.2.2.2.1)), (q8, .inl (G.2.2.1, 201, .inl v0.2.2.2.2.2.2.2.2.2.2.2.2.2.2.2.1))] (fun _ : Unit => some (.int res.1)) (fun _ => [(q0, .inr (7, [.ref q1, .ref q2, .int res.2.2.2.1, .ref q3, .int res.2.2.2.2.2.1, .int res.2.2.2.2.2.2.1, .ref q4, .int res.2.2.2.2.2.2.2.2.1, .ref q5, .ref q6, .ref q7, .int res.2.2.2.2.2.2.2.2.2.2.2.2.1, .int res.2.2.2.2.2.2.2.2.2.2.2.2.2.1, .int res.2.2.2.2.2.2.2.2.2.2.2.2.2.2.1, .int res.2.2.2.2.2.2.2.2.2.2.2.2.2.2.2.1, .ref q8, .int res.2.2.2.2.2.2.2.2.2.2.2.2.2.2.2.2.2])), (q1, .inl (G.2.2.1, 946, .inl res.2.1)), (q2, .inl (G.2.2.1, 5676, .inl res.2.2.1)), (q3, .inl (G.2.2.1, 60, .inl res.2.2.2.2.1)), (q4, .inl (G.2.2.1, 201, .inl res.2.2.2.2.2.2.2.1)), (q5, .inl (G.2.2.1, 201, .inl res.2.2.2.2.2.2.2.2.2.1)), (q6, .inl (G.2.2.1, 201, .inl res.2.2.2.2.2.2.2.2.2.2.1)), (q7, .inl (G.2.2.1, 201, .inl res.2.2.2.2.2.2.2.2.2.2.2.1)), (q8, .inl (G.2.2.1, 201, .inl res.2.2.2.2.2.2.2.2.2.2.2.2.2.2.2.2.1))]) 0 0 := by
  have hw0 : Cond.fieldLink RX8 38 "TelexReceiverModel" "thrown" "I" ∈ wsX8_savedStates := by decide +kernel
  have hw1 : Cond.fieldLink RX8 41 "TelexReceiverModel" "saved" "I" ∈ wsX8_savedStates := by decide +kernel
  have hiX8 : ∀ w ∈ u_ws RX8 TX8 17, w ∈ wsX8_savedStates := by decide +kernel
  refine zg_of (own := RX8) (cc := cX8_savedStates) (nL := 1) (ret := (some .int)) (by decide +kernel) rfl rfl (Nat.le_of_ble_eq_true rfl) (fun Z X hF => ?_)
  show zgGd G Z _ 0 0 1 _ 0 [(0, .ref q0)] []
  unfold zf_X8_savedStates at hf
  refine zg_aload_n X dX8_savedStates_0 rfl 0 rfl ?_
  refine zg_iconst (v := 0) X dX8_savedStates_1 (by decide) ?_
  refine zg_put (C := RX8) (T := TX8) (N := 17) (ty := .int) (ws' := [(q0, .inr (7, [.ref q1, .ref q2, .int v0.2.2.1, .ref q3, .int v0.2.2.2.2.1, .int 0, .ref q4, .int v0.2.2.2.2.2.2.2.1, .ref q5, .ref q6, .ref q7, .int v0.2.2.2.2.2.2.2.2.2.2.2.1, .int v0.2.2.2.2.2.2.2.2.2.2.2.2.1, .int v0.2.2.2.2.2.2.2.2.2.2.2.2.2.1, .int v0.2.2.2.2.2.2.2.2.2.2.2.2.2.2.1, .ref q8, .int v0.2.2.2.2.2.2.2.2.2.2.2.2.2.2.2.2])), (q1, .inl (G.2.2.1, 946, .inl v0.1)), (q2, .inl (G.2.2.1, 5676, .inl v0.2.1)), (q3, .inl (G.2.2.1, 60, .inl v0.2.2.2.1)), (q4, .inl (G.2.2.1, 201, .inl v0.2.2.2.2.2.2.1)), (q5, .inl (G.2.2.1, 201, .inl v0.2.2.2.2.2.2.2.2.1)), (q6, .inl (G.2.2.1, 201, .inl v0.2.2.2.2.2.2.2.2.2.1)), (q7, .inl (G.2.2.1, 201, .inl v0.2.2.2.2.2.2.2.2.2.2.1)), (q8, .inl (G.2.2.1, 201, .inl v0.2.2.2.2.2.2.2.2.2.2.2.2.2.2.2.1))]) X 0 5 hiX8 tyX8 tyX8_ok nmX8 rfl rfl (by decide) hw0 rfl (by decide +kernel) rfl rfl (Nat.le_of_ble_eq_true rfl) rfl dX8_savedStates_2 ?_
  refine zg_aload_n X dX8_savedStates_5 rfl 0 rfl ?_
  refine zg_get (C := RX8) (T := TX8) (N := 17) X 0 2 hiX8 rfl rfl (by decide) hw1 rfl dX8_savedStates_6 ?_
  have hf := Option.some.inj hf
  subst hf
  exact zg_iret X hF rfl rfl () rfl rfl (Nat.le_of_ble_eq_true rfl) (Nat.le_of_ble_eq_true rfl) dX8_savedStates_9
theorem zh_X8_digest : yX8_digest.cls = RX8 ∧ yX8_digest.cls ≠ "java/lang/invoke/MethodHandle" ∧ yX8_digest.cls ≠ "java/lang/invoke/VarHandle" ∧ (parseMethodDescriptor yX8_digest.desc).map (fun d => d.parameters.length) = some 0 := by decide +kernel
set_option maxHeartbeats 8000000 in
set_option maxRecDepth 100000 in
theorem zc_X8_digest (G : zgG) (q0 q1 q2 q3 q4 q5 q6 q7 q8 : Nat) (v0 : zModel) (fu : Nat) (res : (Int64 × zModel)) (hf : zf_X8_digest fu v0 = some res) : zgCt G yX8_digest wsX8_digest ({ frames := 6, cells := 0, slots := 0, locals := 144 } : Room) [.ref q0] [(q0, .inr (7, [.ref q1, .ref q2, .int v0.2.2.1, .ref q3, .int v0.2.2.2.2.1, .int v0.2.2.2.2.2.1, .ref q4, .int v0.2.2.2.2.2.2.2.1, .ref q5, .ref q6, .ref q7, .int v0.2.2.2.2.2.2.2.2.2.2.2.1, .int v0.2.2.2.2.2.2.2.2.2.2.2.2.1, .int v0.2.2.2.2.2.2.2.2.2.2.2.2.2.1, .int v0.2.2.2.2.2.2.2.2.2.2.2.2.2.2.1, .ref q8, .int v0.2.2.2.2.2.2.2.2.2.2.2.2.2.2.2.2])), (q1, .inl (G.2.2.1, 946, .inl v0.1)), (q2, .inl (G.2.2.1, 5676, .inl v0.2.1)), (q3, .inl (G.2.2.1, 60, .inl v0.2.2.2.1)), (q4, .inl (G.2.2.1, 201, .inl v0.2.2.2.2.2.2.1)), (q5, .inl (G.2.2.1, 201, .inl v0.2.2.2.2.2.2.2.2.1)), (q6, .inl (G.2.2.1, 201, .inl v0.2.2.2.2.2.2.2.2.2.1)), (q7, .inl (G.2.2.1, 201, .inl v0.2.2.2.2.2.2.2.2.2.2.1)), (q8, .inl (G.2.2.1, 201, .inl v0.2.2.2.2.2.2.2.2.2.2.2.2.2.2.2.1))] (fun _ : Unit => some (.long res.1)) (fun _ => [(q0, .inr (7, [.ref q1, .ref q2, .int res.2.2.2.1, .ref q3, .int res.2.2.2.2.2.1, .int res.2.2.2.2.2.2.1, .ref q4, .int res.2.2.2.2.2.2.2.2.1, .ref q5, .ref q6, .ref q7, .int res.2.2.2.2.2.2.2.2.2.2.2.2.1, .int res.2.2.2.2.2.2.2.2.2.2.2.2.2.1, .int res.2.2.2.2.2.2.2.2.2.2.2.2.2.2.1, .int res.2.2.2.2.2.2.2.2.2.2.2.2.2.2.2.1, .ref q8, .int res.2.2.2.2.2.2.2.2.2.2.2.2.2.2.2.2.2])), (q1, .inl (G.2.2.1, 946, .inl res.2.1)), (q2, .inl (G.2.2.1, 5676, .inl res.2.2.1)), (q3, .inl (G.2.2.1, 60, .inl res.2.2.2.2.1)), (q4, .inl (G.2.2.1, 201, .inl res.2.2.2.2.2.2.2.1)), (q5, .inl (G.2.2.1, 201, .inl res.2.2.2.2.2.2.2.2.2.1)), (q6, .inl (G.2.2.1, 201, .inl res.2.2.2.2.2.2.2.2.2.2.1)), (q7, .inl (G.2.2.1, 201, .inl res.2.2.2.2.2.2.2.2.2.2.2.1)), (q8, .inl (G.2.2.1, 201, .inl res.2.2.2.2.2.2.2.2.2.2.2.2.2.2.2.2.1))]) 0 0 := by
  have hw0 : Cond.fieldLink RX8 38 "TelexReceiverModel" "thrown" "I" ∈ wsX8_digest := by decide +kernel
  have hw1 : Cond.constantLong RX8 145 (252309) ∈ wsX8_digest := by decide +kernel
  have hw2 : Cond.fieldLink RX8 7 "TelexReceiverModel" "s" "[I" ∈ wsX8_digest := by decide +kernel
  have hw3 : Cond.constantLong RX8 147 (31) ∈ wsX8_digest := by decide +kernel
  have hw4 : Cond.fieldLink RX8 88 "TelexReceiverModel" "printed" "I" ∈ wsX8_digest := by decide +kernel
  have hw5 : Cond.fieldLink RX8 97 "TelexReceiverModel" "segments" "I" ∈ wsX8_digest := by decide +kernel
  have hw6 : Cond.fieldLink RX8 107 "TelexReceiverModel" "bells" "I" ∈ wsX8_digest := by decide +kernel
  have hw7 : Cond.fieldLink RX8 110 "TelexReceiverModel" "questions" "I" ∈ wsX8_digest := by decide +kernel
  have hw8 : Cond.fieldLink RX8 91 "TelexReceiverModel" "shift" "I" ∈ wsX8_digest := by decide +kernel
  have hw9 : Cond.fieldLink RX8 19 "TelexReceiverModel" "paper" "[I" ∈ wsX8_digest := by decide +kernel
  have hw10 : Cond.fieldLink RX8 25 "TelexReceiverModel" "size" "[I" ∈ wsX8_digest := by decide +kernel
  have hw11 : Cond.fieldLink RX8 28 "TelexReceiverModel" "kind" "[I" ∈ wsX8_digest := by decide +kernel
  have hiX8 : ∀ w ∈ u_ws RX8 TX8 17, w ∈ wsX8_digest := by decide +kernel
  refine zg_of (own := RX8) (cc := cX8_digest) (nL := 5) (ret := (some .long)) (by decide +kernel) rfl rfl (Nat.le_of_ble_eq_true rfl) (fun Z X hF => ?_)
  show zgGd G Z _ 0 0 5 _ 0 [(0, .ref q0)] []
  have hL320 : ∀ (n : Nat) (y2 : Int64) (y4 : Int32) (w0 : (Nat → Int32)) (w1 : (Nat → Int32)) (w2 : Int32) (w3 : (Nat → Int32)) (w4 : Int32) (w5 : Int32) (w6 : (Nat → Int32)) (w7 : Int32) (w8 : (Nat → Int32)) (w9 : (Nat → Int32)) (w10 : (Nat → Int32)) (w11 : Int32) (w12 : Int32) (w13 : Int32) (w14 : Int32) (w15 : (Nat → Int32)) (w16 : Int32), zf_X8_digest_L320 fu v0 n y2 y4 w0 w1 w2 w3 w4 w5 w6 w7 w8 w9 w10 w11 w12 w13 w14 w15 w16 = some res → zgGd G Z ({ frames := 6, cells := 0, slots := 0, locals := 144 } : Room) 0 0 5 [(q0, .inr (7, [.ref q1, .ref q2, .int w2, .ref q3, .int w4, .int w5, .ref q4, .int w7, .ref q5, .ref q6, .ref q7, .int w11, .int w12, .int w13, .int w14, .ref q8, .int w16])), (q1, .inl (G.2.2.1, 946, .inl w0)), (q2, .inl (G.2.2.1, 5676, .inl w1)), (q3, .inl (G.2.2.1, 60, .inl w3)), (q4, .inl (G.2.2.1, 201, .inl w6)), (q5, .inl (G.2.2.1, 201, .inl w8)), (q6, .inl (G.2.2.1, 201, .inl w9)), (q7, .inl (G.2.2.1, 201, .inl w10)), (q8, .inl (G.2.2.1, 201, .inl w15))] 320 [(0, .ref q0), (2, .long y2), (4, .int y4)] [] := by
    intro n
    induction n with
    | zero =>
      intro y2 y4 w0 w1 w2 w3 w4 w5 w6 w7 w8 w9 w10 w11 w12 w13 w14 w15 w16 hf
      rw [zf_X8_digest_L320] at hf
      cases hf
    | succ n320 ih320 =>
      intro y2 y4 w0 w1 w2 w3 w4 w5 w6 w7 w8 w9 w10 w11 w12 w13 w14 w15 w16 hf
      rw [zf_X8_digest_L320] at hf
      refine zg_iload X dX8_digest_320 2 rfl ?_
      refine zg_aload_n X dX8_digest_322 rfl 0 rfl ?_
      refine zg_get (C := RX8) (T := TX8) (N := 17) X 0 0 hiX8 rfl rfl (by decide) hw2 rfl dX8_digest_323 ?_
      refine zg_sipush (v := 805) X dX8_digest_326 (by decide) ?_
      refine zg_iald X 1 rfl (by unfold vp_in; decide) dX8_digest_329 ?_
      obtain ⟨x41, ex41, hf⟩ := pl_l hf
      refine zg_topi ex41 ?_
      refine zg_icmp_ge (tgt := 372) X dX8_digest_330 (by decide) (fun c42 => ?_) (fun c42 => ?_)
      · have hf := pl_t c42 hf
        refine zg_lload_n X dX8_digest_372 rfl 1 rfl ?_
        have hf := Option.some.inj hf
        subst hf
        exact zg_lret X hF () rfl rfl (Nat.le_of_ble_eq_true rfl) (Nat.le_of_ble_eq_true rfl) dX8_digest_373
      · have hf := pl_f c42 hf
        refine zg_ldc2 (v := 31) X dX8_digest_333 hw3 ?_
        refine zg_lload_n X dX8_digest_336 rfl 1 rfl ?_
        refine zg_lmul X dX8_digest_337 ?_
        refine zg_aload_n X dX8_digest_338 rfl 0 rfl ?_
        refine zg_get (C := RX8) (T := TX8) (N := 17) X 0 0 hiX8 rfl rfl (by decide) hw2 rfl dX8_digest_339 ?_
        refine zg_sipush (v := 806) X dX8_digest_342 (by decide) ?_
        refine zg_iload X dX8_digest_345 2 rfl ?_
        refine zg_iadd X dX8_digest_347 ?_
        obtain ⟨x43, ex43, hf⟩ := pl_l hf
        refine zg_topi ex43 ?_
        obtain ⟨hin, hf⟩ := pl_in hf
        refine zg_iald X 1 rfl hin dX8_digest_348 ?_
        obtain ⟨x44, ex44, hf⟩ := pl_l hf
        refine zg_topi ex44 ?_
        refine zg_i2l X dX8_digest_349 ?_
        refine zg_ladd X dX8_digest_350 ?_
        obtain ⟨x45, ex45, hf⟩ := pl_l hf
        refine zg_topl ex45 ?_
        refine zg_lstore_n (L' := [(2, .long x45), (0, .ref q0), (4, .int y4)]) X dX8_digest_351 rfl (by decide) rfl ?_
        refine zg_ldc2 (v := 31) X dX8_digest_352 hw3 ?_
        refine zg_lload_n X dX8_digest_355 rfl 0 rfl ?_
        refine zg_lmul X dX8_digest_356 ?_
        refine zg_aload_n X dX8_digest_357 rfl 1 rfl ?_
        refine zg_iload X dX8_digest_358 2 rfl ?_
        obtain ⟨b46, hb46, hf⟩ := pl_b hf
        refine zg_cP1 X (zg_runV X (zc_X8_usesOf G q0 q1 q2 q3 q4 q5 q6 q7 q8 (w0, w1, w2, w3, w4, w5, w6, w7, w8, w9, w10, w11, w12, w13, w14, w15, w16) y4 fu b46 hb46) gX8_digest_X8_usesOf rfl zh_X8_usesOf ⟨rfl, rfl⟩ ⟨Nat.le_of_ble_eq_true rfl, Nat.le_of_ble_eq_true rfl⟩ rfl rfl rfl (Nat.le_of_ble_eq_true rfl) ⟨Nat.le_of_ble_eq_true rfl, Nat.le_of_ble_eq_true rfl⟩ [0, 1, 2, 3, 4, 5, 6, 7, 8] (by decide) rfl rfl dX8_digest_360) rfl ?_
        refine zg_i2l X dX8_digest_363 ?_
        refine zg_ladd X dX8_digest_364 ?_
        obtain ⟨x47, ex47, hf⟩ := pl_l hf
        refine zg_topl ex47 ?_
        refine zg_lstore_n (L' := [(2, .long x47), (0, .ref q0), (4, .int y4)]) X dX8_digest_365 rfl (by decide) rfl ?_
        obtain ⟨x48, ex48, hf⟩ := pl_l hf
        refine zg_iinc (v := x48) (L' := [(4, .int x48), (2, .long x47), (0, .ref q0)]) X dX8_digest_366 (j := 2) rfl (by rw [ex48]; rfl) (by decide) rfl ?_
        refine zg_goto (tgt := 320) X dX8_digest_369 (by decide) ?_
        refine zg_loc [2, 1, 0] rfl ?_
        exact ih320 x47 x48 w0 w1 w2 w3 w4 w5 w6 w7 w8 w9 w10 w11 w12 w13 w14 w15 w16 hf
  have hL272 : ∀ (n : Nat) (y2 : Int64) (y4 : Int32) (w0 : (Nat → Int32)) (w1 : (Nat → Int32)) (w2 : Int32) (w3 : (Nat → Int32)) (w4 : Int32) (w5 : Int32) (w6 : (Nat → Int32)) (w7 : Int32) (w8 : (Nat → Int32)) (w9 : (Nat → Int32)) (w10 : (Nat → Int32)) (w11 : Int32) (w12 : Int32) (w13 : Int32) (w14 : Int32) (w15 : (Nat → Int32)) (w16 : Int32), zf_X8_digest_L272 fu v0 n y2 y4 w0 w1 w2 w3 w4 w5 w6 w7 w8 w9 w10 w11 w12 w13 w14 w15 w16 = some res → zgGd G Z ({ frames := 6, cells := 0, slots := 0, locals := 144 } : Room) 0 0 5 [(q0, .inr (7, [.ref q1, .ref q2, .int w2, .ref q3, .int w4, .int w5, .ref q4, .int w7, .ref q5, .ref q6, .ref q7, .int w11, .int w12, .int w13, .int w14, .ref q8, .int w16])), (q1, .inl (G.2.2.1, 946, .inl w0)), (q2, .inl (G.2.2.1, 5676, .inl w1)), (q3, .inl (G.2.2.1, 60, .inl w3)), (q4, .inl (G.2.2.1, 201, .inl w6)), (q5, .inl (G.2.2.1, 201, .inl w8)), (q6, .inl (G.2.2.1, 201, .inl w9)), (q7, .inl (G.2.2.1, 201, .inl w10)), (q8, .inl (G.2.2.1, 201, .inl w15))] 272 [(0, .ref q0), (2, .long y2), (4, .int y4)] [] := by
    intro n
    induction n with
    | zero =>
      intro y2 y4 w0 w1 w2 w3 w4 w5 w6 w7 w8 w9 w10 w11 w12 w13 w14 w15 w16 hf
      rw [zf_X8_digest_L272] at hf
      cases hf
    | succ n272 ih272 =>
      intro y2 y4 w0 w1 w2 w3 w4 w5 w6 w7 w8 w9 w10 w11 w12 w13 w14 w15 w16 hf
      rw [zf_X8_digest_L272] at hf
      refine zg_iload X dX8_digest_272 2 rfl ?_
      refine zg_aload_n X dX8_digest_274 rfl 0 rfl ?_
      refine zg_get (C := RX8) (T := TX8) (N := 17) X 0 11 hiX8 rfl rfl (by decide) hw5 rfl dX8_digest_275 ?_
      refine zg_icmp_ge (tgt := 317) X dX8_digest_278 (by decide) (fun c35 => ?_) (fun c35 => ?_)
      · have hf := pl_t c35 hf
        refine zg_iconst (v := 0) X dX8_digest_317 (by decide) ?_
        refine zg_istore (L' := [(4, .int 0), (0, .ref q0), (2, .long y2)]) X dX8_digest_318 (by decide) rfl ?_
        refine zg_loc [1, 2, 0] rfl ?_
        exact hL320 fu y2 0 w0 w1 w2 w3 w4 w5 w6 w7 w8 w9 w10 w11 w12 w13 w14 w15 w16 hf
      · have hf := pl_f c35 hf
        refine zg_ldc2 (v := 31) X dX8_digest_281 hw3 ?_
        refine zg_lload_n X dX8_digest_284 rfl 1 rfl ?_
        refine zg_lmul X dX8_digest_285 ?_
        refine zg_aload_n X dX8_digest_286 rfl 0 rfl ?_
        refine zg_get (C := RX8) (T := TX8) (N := 17) X 0 9 hiX8 rfl rfl (by decide) hw10 rfl dX8_digest_287 ?_
        refine zg_iload X dX8_digest_290 2 rfl ?_
        obtain ⟨hin, hf⟩ := pl_in hf
        refine zg_iald X 6 rfl hin dX8_digest_292 ?_
        obtain ⟨x36, ex36, hf⟩ := pl_l hf
        refine zg_topi ex36 ?_
        refine zg_i2l X dX8_digest_293 ?_
        refine zg_ladd X dX8_digest_294 ?_
        obtain ⟨x37, ex37, hf⟩ := pl_l hf
        refine zg_topl ex37 ?_
        refine zg_lstore_n (L' := [(2, .long x37), (0, .ref q0), (4, .int y4)]) X dX8_digest_295 rfl (by decide) rfl ?_
        refine zg_ldc2 (v := 31) X dX8_digest_296 hw3 ?_
        refine zg_lload_n X dX8_digest_299 rfl 0 rfl ?_
        refine zg_lmul X dX8_digest_300 ?_
        refine zg_aload_n X dX8_digest_301 rfl 1 rfl ?_
        refine zg_get (C := RX8) (T := TX8) (N := 17) X 0 10 hiX8 rfl rfl (by decide) hw11 rfl dX8_digest_302 ?_
        refine zg_iload X dX8_digest_305 2 rfl ?_
        obtain ⟨hin, hf⟩ := pl_in hf
        refine zg_iald X 7 rfl hin dX8_digest_307 ?_
        obtain ⟨x38, ex38, hf⟩ := pl_l hf
        refine zg_topi ex38 ?_
        refine zg_i2l X dX8_digest_308 ?_
        refine zg_ladd X dX8_digest_309 ?_
        obtain ⟨x39, ex39, hf⟩ := pl_l hf
        refine zg_topl ex39 ?_
        refine zg_lstore_n (L' := [(2, .long x39), (0, .ref q0), (4, .int y4)]) X dX8_digest_310 rfl (by decide) rfl ?_
        obtain ⟨x40, ex40, hf⟩ := pl_l hf
        refine zg_iinc (v := x40) (L' := [(4, .int x40), (2, .long x39), (0, .ref q0)]) X dX8_digest_311 (j := 2) rfl (by rw [ex40]; rfl) (by decide) rfl ?_
        refine zg_goto (tgt := 272) X dX8_digest_314 (by decide) ?_
        refine zg_loc [2, 1, 0] rfl ?_
        exact ih272 x39 x40 w0 w1 w2 w3 w4 w5 w6 w7 w8 w9 w10 w11 w12 w13 w14 w15 w16 hf
  have hL239 : ∀ (n : Nat) (y2 : Int64) (y4 : Int32) (w0 : (Nat → Int32)) (w1 : (Nat → Int32)) (w2 : Int32) (w3 : (Nat → Int32)) (w4 : Int32) (w5 : Int32) (w6 : (Nat → Int32)) (w7 : Int32) (w8 : (Nat → Int32)) (w9 : (Nat → Int32)) (w10 : (Nat → Int32)) (w11 : Int32) (w12 : Int32) (w13 : Int32) (w14 : Int32) (w15 : (Nat → Int32)) (w16 : Int32), zf_X8_digest_L239 fu v0 n y2 y4 w0 w1 w2 w3 w4 w5 w6 w7 w8 w9 w10 w11 w12 w13 w14 w15 w16 = some res → zgGd G Z ({ frames := 6, cells := 0, slots := 0, locals := 144 } : Room) 0 0 5 [(q0, .inr (7, [.ref q1, .ref q2, .int w2, .ref q3, .int w4, .int w5, .ref q4, .int w7, .ref q5, .ref q6, .ref q7, .int w11, .int w12, .int w13, .int w14, .ref q8, .int w16])), (q1, .inl (G.2.2.1, 946, .inl w0)), (q2, .inl (G.2.2.1, 5676, .inl w1)), (q3, .inl (G.2.2.1, 60, .inl w3)), (q4, .inl (G.2.2.1, 201, .inl w6)), (q5, .inl (G.2.2.1, 201, .inl w8)), (q6, .inl (G.2.2.1, 201, .inl w9)), (q7, .inl (G.2.2.1, 201, .inl w10)), (q8, .inl (G.2.2.1, 201, .inl w15))] 239 [(0, .ref q0), (2, .long y2), (4, .int y4)] [] := by
    intro n
    induction n with
    | zero =>
      intro y2 y4 w0 w1 w2 w3 w4 w5 w6 w7 w8 w9 w10 w11 w12 w13 w14 w15 w16 hf
      rw [zf_X8_digest_L239] at hf
      cases hf
    | succ n239 ih239 =>
      intro y2 y4 w0 w1 w2 w3 w4 w5 w6 w7 w8 w9 w10 w11 w12 w13 w14 w15 w16 hf
      rw [zf_X8_digest_L239] at hf
      refine zg_iload X dX8_digest_239 2 rfl ?_
      refine zg_aload_n X dX8_digest_241 rfl 0 rfl ?_
      refine zg_get (C := RX8) (T := TX8) (N := 17) X 0 7 hiX8 rfl rfl (by decide) hw4 rfl dX8_digest_242 ?_
      refine zg_icmp_ge (tgt := 269) X dX8_digest_245 (by decide) (fun c31 => ?_) (fun c31 => ?_)
      · have hf := pl_t c31 hf
        refine zg_iconst (v := 0) X dX8_digest_269 (by decide) ?_
        refine zg_istore (L' := [(4, .int 0), (0, .ref q0), (2, .long y2)]) X dX8_digest_270 (by decide) rfl ?_
        refine zg_loc [1, 2, 0] rfl ?_
        exact hL272 fu y2 0 w0 w1 w2 w3 w4 w5 w6 w7 w8 w9 w10 w11 w12 w13 w14 w15 w16 hf
      · have hf := pl_f c31 hf
        refine zg_ldc2 (v := 31) X dX8_digest_248 hw3 ?_
        refine zg_lload_n X dX8_digest_251 rfl 1 rfl ?_
        refine zg_lmul X dX8_digest_252 ?_
        refine zg_aload_n X dX8_digest_253 rfl 0 rfl ?_
        refine zg_get (C := RX8) (T := TX8) (N := 17) X 0 6 hiX8 rfl rfl (by decide) hw9 rfl dX8_digest_254 ?_
        refine zg_iload X dX8_digest_257 2 rfl ?_
        obtain ⟨hin, hf⟩ := pl_in hf
        refine zg_iald X 4 rfl hin dX8_digest_259 ?_
        obtain ⟨x32, ex32, hf⟩ := pl_l hf
        refine zg_topi ex32 ?_
        refine zg_i2l X dX8_digest_260 ?_
        refine zg_ladd X dX8_digest_261 ?_
        obtain ⟨x33, ex33, hf⟩ := pl_l hf
        refine zg_topl ex33 ?_
        refine zg_lstore_n (L' := [(2, .long x33), (0, .ref q0), (4, .int y4)]) X dX8_digest_262 rfl (by decide) rfl ?_
        obtain ⟨x34, ex34, hf⟩ := pl_l hf
        refine zg_iinc (v := x34) (L' := [(4, .int x34), (2, .long x33), (0, .ref q0)]) X dX8_digest_263 (j := 2) rfl (by rw [ex34]; rfl) (by decide) rfl ?_
        refine zg_goto (tgt := 239) X dX8_digest_266 (by decide) ?_
        refine zg_loc [2, 1, 0] rfl ?_
        exact ih239 x33 x34 w0 w1 w2 w3 w4 w5 w6 w7 w8 w9 w10 w11 w12 w13 w14 w15 w16 hf
  have hL198 : ∀ (n : Nat) (y2 : Int64) (y4 : Int32) (w0 : (Nat → Int32)) (w1 : (Nat → Int32)) (w2 : Int32) (w3 : (Nat → Int32)) (w4 : Int32) (w5 : Int32) (w6 : (Nat → Int32)) (w7 : Int32) (w8 : (Nat → Int32)) (w9 : (Nat → Int32)) (w10 : (Nat → Int32)) (w11 : Int32) (w12 : Int32) (w13 : Int32) (w14 : Int32) (w15 : (Nat → Int32)) (w16 : Int32), zf_X8_digest_L198 fu v0 n y2 y4 w0 w1 w2 w3 w4 w5 w6 w7 w8 w9 w10 w11 w12 w13 w14 w15 w16 = some res → zgGd G Z ({ frames := 6, cells := 0, slots := 0, locals := 144 } : Room) 0 0 5 [(q0, .inr (7, [.ref q1, .ref q2, .int w2, .ref q3, .int w4, .int w5, .ref q4, .int w7, .ref q5, .ref q6, .ref q7, .int w11, .int w12, .int w13, .int w14, .ref q8, .int w16])), (q1, .inl (G.2.2.1, 946, .inl w0)), (q2, .inl (G.2.2.1, 5676, .inl w1)), (q3, .inl (G.2.2.1, 60, .inl w3)), (q4, .inl (G.2.2.1, 201, .inl w6)), (q5, .inl (G.2.2.1, 201, .inl w8)), (q6, .inl (G.2.2.1, 201, .inl w9)), (q7, .inl (G.2.2.1, 201, .inl w10)), (q8, .inl (G.2.2.1, 201, .inl w15))] 198 [(0, .ref q0), (2, .long y2), (4, .int y4)] [] := by
    intro n
    induction n with
    | zero =>
      intro y2 y4 w0 w1 w2 w3 w4 w5 w6 w7 w8 w9 w10 w11 w12 w13 w14 w15 w16 hf
      rw [zf_X8_digest_L198] at hf
      cases hf
    | succ n198 ih198 =>
      intro y2 y4 w0 w1 w2 w3 w4 w5 w6 w7 w8 w9 w10 w11 w12 w13 w14 w15 w16 hf
      rw [zf_X8_digest_L198] at hf
      refine zg_iload X dX8_digest_198 2 rfl ?_
      refine zg_aload_n X dX8_digest_200 rfl 0 rfl ?_
      refine zg_get (C := RX8) (T := TX8) (N := 17) X 0 0 hiX8 rfl rfl (by decide) hw2 rfl dX8_digest_201 ?_
      refine zg_sipush (v := 201) X dX8_digest_204 (by decide) ?_
      refine zg_iald X 1 rfl (by unfold vp_in; decide) dX8_digest_207 ?_
      obtain ⟨x25, ex25, hf⟩ := pl_l hf
      refine zg_topi ex25 ?_
      refine zg_icmp_ge (tgt := 236) X dX8_digest_208 (by decide) (fun c26 => ?_) (fun c26 => ?_)
      · have hf := pl_t c26 hf
        refine zg_iconst (v := 0) X dX8_digest_236 (by decide) ?_
        refine zg_istore (L' := [(4, .int 0), (0, .ref q0), (2, .long y2)]) X dX8_digest_237 (by decide) rfl ?_
        refine zg_loc [1, 2, 0] rfl ?_
        exact hL239 fu y2 0 w0 w1 w2 w3 w4 w5 w6 w7 w8 w9 w10 w11 w12 w13 w14 w15 w16 hf
      · have hf := pl_f c26 hf
        refine zg_ldc2 (v := 31) X dX8_digest_211 hw3 ?_
        refine zg_lload_n X dX8_digest_214 rfl 1 rfl ?_
        refine zg_lmul X dX8_digest_215 ?_
        refine zg_aload_n X dX8_digest_216 rfl 0 rfl ?_
        refine zg_get (C := RX8) (T := TX8) (N := 17) X 0 0 hiX8 rfl rfl (by decide) hw2 rfl dX8_digest_217 ?_
        refine zg_sipush (v := 202) X dX8_digest_220 (by decide) ?_
        refine zg_iload X dX8_digest_223 2 rfl ?_
        refine zg_iadd X dX8_digest_225 ?_
        obtain ⟨x27, ex27, hf⟩ := pl_l hf
        refine zg_topi ex27 ?_
        obtain ⟨hin, hf⟩ := pl_in hf
        refine zg_iald X 1 rfl hin dX8_digest_226 ?_
        obtain ⟨x28, ex28, hf⟩ := pl_l hf
        refine zg_topi ex28 ?_
        refine zg_i2l X dX8_digest_227 ?_
        refine zg_ladd X dX8_digest_228 ?_
        obtain ⟨x29, ex29, hf⟩ := pl_l hf
        refine zg_topl ex29 ?_
        refine zg_lstore_n (L' := [(2, .long x29), (0, .ref q0), (4, .int y4)]) X dX8_digest_229 rfl (by decide) rfl ?_
        obtain ⟨x30, ex30, hf⟩ := pl_l hf
        refine zg_iinc (v := x30) (L' := [(4, .int x30), (2, .long x29), (0, .ref q0)]) X dX8_digest_230 (j := 2) rfl (by rw [ex30]; rfl) (by decide) rfl ?_
        refine zg_goto (tgt := 198) X dX8_digest_233 (by decide) ?_
        refine zg_loc [2, 1, 0] rfl ?_
        exact ih198 x29 x30 w0 w1 w2 w3 w4 w5 w6 w7 w8 w9 w10 w11 w12 w13 w14 w15 w16 hf
  unfold zf_X8_digest at hf
  refine zg_aload_n X dX8_digest_0 rfl 0 rfl ?_
  refine zg_iconst (v := 0) X dX8_digest_1 (by decide) ?_
  refine zg_put (C := RX8) (T := TX8) (N := 17) (ty := .int) (ws' := [(q0, .inr (7, [.ref q1, .ref q2, .int v0.2.2.1, .ref q3, .int v0.2.2.2.2.1, .int 0, .ref q4, .int v0.2.2.2.2.2.2.2.1, .ref q5, .ref q6, .ref q7, .int v0.2.2.2.2.2.2.2.2.2.2.2.1, .int v0.2.2.2.2.2.2.2.2.2.2.2.2.1, .int v0.2.2.2.2.2.2.2.2.2.2.2.2.2.1, .int v0.2.2.2.2.2.2.2.2.2.2.2.2.2.2.1, .ref q8, .int v0.2.2.2.2.2.2.2.2.2.2.2.2.2.2.2.2])), (q1, .inl (G.2.2.1, 946, .inl v0.1)), (q2, .inl (G.2.2.1, 5676, .inl v0.2.1)), (q3, .inl (G.2.2.1, 60, .inl v0.2.2.2.1)), (q4, .inl (G.2.2.1, 201, .inl v0.2.2.2.2.2.2.1)), (q5, .inl (G.2.2.1, 201, .inl v0.2.2.2.2.2.2.2.2.1)), (q6, .inl (G.2.2.1, 201, .inl v0.2.2.2.2.2.2.2.2.2.1)), (q7, .inl (G.2.2.1, 201, .inl v0.2.2.2.2.2.2.2.2.2.2.1)), (q8, .inl (G.2.2.1, 201, .inl v0.2.2.2.2.2.2.2.2.2.2.2.2.2.2.2.1))]) X 0 5 hiX8 tyX8 tyX8_ok nmX8 rfl rfl (by decide) hw0 rfl (by decide +kernel) rfl rfl (Nat.le_of_ble_eq_true rfl) rfl dX8_digest_2 ?_
  refine zg_aload_n X dX8_digest_5 rfl 0 rfl ?_
  obtain ⟨b1, hb1, hf⟩ := pl_b hf
  refine zg_cU1 (ws2 := [(q0, .inr (7, [.ref q1, .ref q2, .int b1.2.2.2.1, .ref q3, .int b1.2.2.2.2.2.1, .int b1.2.2.2.2.2.2.1, .ref q4, .int b1.2.2.2.2.2.2.2.2.1, .ref q5, .ref q6, .ref q7, .int b1.2.2.2.2.2.2.2.2.2.2.2.2.1, .int b1.2.2.2.2.2.2.2.2.2.2.2.2.2.1, .int b1.2.2.2.2.2.2.2.2.2.2.2.2.2.2.1, .int b1.2.2.2.2.2.2.2.2.2.2.2.2.2.2.2.1, .ref q8, .int b1.2.2.2.2.2.2.2.2.2.2.2.2.2.2.2.2.2])), (q1, .inl (G.2.2.1, 946, .inl b1.2.1)), (q2, .inl (G.2.2.1, 5676, .inl b1.2.2.1)), (q3, .inl (G.2.2.1, 60, .inl b1.2.2.2.2.1)), (q4, .inl (G.2.2.1, 201, .inl b1.2.2.2.2.2.2.2.1)), (q5, .inl (G.2.2.1, 201, .inl b1.2.2.2.2.2.2.2.2.2.1)), (q6, .inl (G.2.2.1, 201, .inl b1.2.2.2.2.2.2.2.2.2.2.1)), (q7, .inl (G.2.2.1, 201, .inl b1.2.2.2.2.2.2.2.2.2.2.2.1)), (q8, .inl (G.2.2.1, 201, .inl b1.2.2.2.2.2.2.2.2.2.2.2.2.2.2.2.2.1))]) X (zg_runV X (zc_X8_repair G q0 q1 q2 q3 q4 q5 q6 q7 q8 (v0.1, v0.2.1, v0.2.2.1, v0.2.2.2.1, v0.2.2.2.2.1, 0, v0.2.2.2.2.2.2.1, v0.2.2.2.2.2.2.2.1, v0.2.2.2.2.2.2.2.2.1, v0.2.2.2.2.2.2.2.2.2.1, v0.2.2.2.2.2.2.2.2.2.2.1, v0.2.2.2.2.2.2.2.2.2.2.2.1, v0.2.2.2.2.2.2.2.2.2.2.2.2.1, v0.2.2.2.2.2.2.2.2.2.2.2.2.2.1, v0.2.2.2.2.2.2.2.2.2.2.2.2.2.2.1, v0.2.2.2.2.2.2.2.2.2.2.2.2.2.2.2.1, v0.2.2.2.2.2.2.2.2.2.2.2.2.2.2.2.2) fu b1 hb1) gX8_digest_X8_repair rfl zh_X8_repair ⟨rfl, rfl⟩ ⟨Nat.le_of_ble_eq_true rfl, Nat.le_of_ble_eq_true rfl⟩ rfl rfl rfl (Nat.le_of_ble_eq_true rfl) ⟨Nat.le_of_ble_eq_true rfl, Nat.le_of_ble_eq_true rfl⟩ [0, 1, 2, 3, 4, 5, 6, 7, 8] (by decide) rfl rfl dX8_digest_6) rfl rfl ?_
  refine zg_istore_n (L' := [(1, .int b1.1), (0, .ref q0)]) X dX8_digest_9 rfl (by decide) rfl ?_
  refine zg_aload_n X dX8_digest_10 rfl 1 rfl ?_
  refine zg_iconst (v := (-1)) X dX8_digest_11 (by decide) ?_
  refine zg_iconst (v := 0) X dX8_digest_12 (by decide) ?_
  obtain ⟨b2, hb2, hf⟩ := pl_b hf
  refine zg_cU0 (ws2 := [(q0, .inr (7, [.ref q1, .ref q2, .int b2.2.2.1, .ref q3, .int b2.2.2.2.2.1, .int b2.2.2.2.2.2.1, .ref q4, .int b2.2.2.2.2.2.2.2.1, .ref q5, .ref q6, .ref q7, .int b2.2.2.2.2.2.2.2.2.2.2.2.1, .int b2.2.2.2.2.2.2.2.2.2.2.2.2.1, .int b2.2.2.2.2.2.2.2.2.2.2.2.2.2.1, .int b2.2.2.2.2.2.2.2.2.2.2.2.2.2.2.1, .ref q8, .int b2.2.2.2.2.2.2.2.2.2.2.2.2.2.2.2.2])), (q1, .inl (G.2.2.1, 946, .inl b2.1)), (q2, .inl (G.2.2.1, 5676, .inl b2.2.1)), (q3, .inl (G.2.2.1, 60, .inl b2.2.2.2.1)), (q4, .inl (G.2.2.1, 201, .inl b2.2.2.2.2.2.2.1)), (q5, .inl (G.2.2.1, 201, .inl b2.2.2.2.2.2.2.2.2.1)), (q6, .inl (G.2.2.1, 201, .inl b2.2.2.2.2.2.2.2.2.2.1)), (q7, .inl (G.2.2.1, 201, .inl b2.2.2.2.2.2.2.2.2.2.2.1)), (q8, .inl (G.2.2.1, 201, .inl b2.2.2.2.2.2.2.2.2.2.2.2.2.2.2.2.1))]) X (zg_runV X (zc_X8_decodes G q0 q1 q2 q3 q4 q5 q6 q7 q8 b1.2 (-1) 0 fu b2 hb2) gX8_digest_X8_decodes rfl zh_X8_decodes ⟨rfl, rfl⟩ ⟨Nat.le_of_ble_eq_true rfl, Nat.le_of_ble_eq_true rfl⟩ rfl rfl rfl (Nat.le_of_ble_eq_true rfl) ⟨Nat.le_of_ble_eq_true rfl, Nat.le_of_ble_eq_true rfl⟩ [0, 1, 2, 3, 4, 5, 6, 7, 8] (by decide) rfl rfl dX8_digest_13) rfl rfl ?_
  refine zg_ldc2 (v := 252309) X dX8_digest_16 hw1 ?_
  refine zg_aload_n X dX8_digest_19 rfl 1 rfl ?_
  refine zg_get (C := RX8) (T := TX8) (N := 17) X 0 0 hiX8 rfl rfl (by decide) hw2 rfl dX8_digest_20 ?_
  refine zg_iconst (v := 0) X dX8_digest_23 (by decide) ?_
  refine zg_iald X 1 rfl (by unfold vp_in; decide) dX8_digest_24 ?_
  obtain ⟨x3, ex3, hf⟩ := pl_l hf
  refine zg_topi ex3 ?_
  refine zg_i2l X dX8_digest_25 ?_
  refine zg_ladd X dX8_digest_26 ?_
  obtain ⟨x4, ex4, hf⟩ := pl_l hf
  refine zg_topl ex4 ?_
  refine zg_lstore_n (L' := [(2, .long x4), (1, .int b1.1), (0, .ref q0)]) X dX8_digest_27 rfl (by decide) rfl ?_
  refine zg_ldc2 (v := 31) X dX8_digest_28 hw3 ?_
  refine zg_lload_n X dX8_digest_31 rfl 0 rfl ?_
  refine zg_lmul X dX8_digest_32 ?_
  refine zg_aload_n X dX8_digest_33 rfl 2 rfl ?_
  refine zg_get (C := RX8) (T := TX8) (N := 17) X 0 0 hiX8 rfl rfl (by decide) hw2 rfl dX8_digest_34 ?_
  refine zg_pc 37 rfl ?_
  refine zg_sipush (v := 201) X dX8_digest_37 (by decide) ?_
  refine zg_iald X 1 rfl (by unfold vp_in; decide) dX8_digest_40 ?_
  obtain ⟨x5, ex5, hf⟩ := pl_l hf
  refine zg_topi ex5 ?_
  refine zg_i2l X dX8_digest_41 ?_
  refine zg_ladd X dX8_digest_42 ?_
  obtain ⟨x6, ex6, hf⟩ := pl_l hf
  refine zg_topl ex6 ?_
  refine zg_lstore_n (L' := [(2, .long x6), (1, .int b1.1), (0, .ref q0)]) X dX8_digest_43 rfl (by decide) rfl ?_
  refine zg_ldc2 (v := 31) X dX8_digest_44 hw3 ?_
  refine zg_lload_n X dX8_digest_47 rfl 0 rfl ?_
  refine zg_lmul X dX8_digest_48 ?_
  refine zg_aload_n X dX8_digest_49 rfl 2 rfl ?_
  refine zg_get (C := RX8) (T := TX8) (N := 17) X 0 0 hiX8 rfl rfl (by decide) hw2 rfl dX8_digest_50 ?_
  refine zg_sipush (v := 603) X dX8_digest_53 (by decide) ?_
  refine zg_iald X 1 rfl (by unfold vp_in; decide) dX8_digest_56 ?_
  obtain ⟨x7, ex7, hf⟩ := pl_l hf
  refine zg_topi ex7 ?_
  refine zg_i2l X dX8_digest_57 ?_
  refine zg_ladd X dX8_digest_58 ?_
  obtain ⟨x8, ex8, hf⟩ := pl_l hf
  refine zg_topl ex8 ?_
  refine zg_lstore_n (L' := [(2, .long x8), (1, .int b1.1), (0, .ref q0)]) X dX8_digest_59 rfl (by decide) rfl ?_
  refine zg_ldc2 (v := 31) X dX8_digest_60 hw3 ?_
  refine zg_lload_n X dX8_digest_63 rfl 0 rfl ?_
  refine zg_lmul X dX8_digest_64 ?_
  refine zg_aload_n X dX8_digest_65 rfl 2 rfl ?_
  obtain ⟨b9, hb9, hf⟩ := pl_b hf
  refine zg_cP1 X (zg_runV X (zc_X8_faulty G q0 q1 q2 q3 q4 q5 q6 q7 q8 b2 fu b9 hb9) gX8_digest_X8_faulty rfl zh_X8_faulty ⟨rfl, rfl⟩ ⟨Nat.le_of_ble_eq_true rfl, Nat.le_of_ble_eq_true rfl⟩ rfl rfl rfl (Nat.le_of_ble_eq_true rfl) ⟨Nat.le_of_ble_eq_true rfl, Nat.le_of_ble_eq_true rfl⟩ [0, 1, 2, 3, 4, 5, 6, 7, 8] (by decide) rfl rfl dX8_digest_66) rfl ?_
  refine zg_i2l X dX8_digest_69 ?_
  refine zg_ladd X dX8_digest_70 ?_
  obtain ⟨x10, ex10, hf⟩ := pl_l hf
  refine zg_topl ex10 ?_
  refine zg_lstore_n (L' := [(2, .long x10), (1, .int b1.1), (0, .ref q0)]) X dX8_digest_71 rfl (by decide) rfl ?_
  refine zg_ldc2 (v := 31) X dX8_digest_72 hw3 ?_
  refine zg_pc 75 rfl ?_
  refine zg_lload_n X dX8_digest_75 rfl 0 rfl ?_
  refine zg_lmul X dX8_digest_76 ?_
  refine zg_aload_n X dX8_digest_77 rfl 2 rfl ?_
  refine zg_get (C := RX8) (T := TX8) (N := 17) X 0 0 hiX8 rfl rfl (by decide) hw2 rfl dX8_digest_78 ?_
  refine zg_sipush (v := 805) X dX8_digest_81 (by decide) ?_
  refine zg_iald X 1 rfl (by unfold vp_in; decide) dX8_digest_84 ?_
  obtain ⟨x11, ex11, hf⟩ := pl_l hf
  refine zg_topi ex11 ?_
  refine zg_i2l X dX8_digest_85 ?_
  refine zg_ladd X dX8_digest_86 ?_
  obtain ⟨x12, ex12, hf⟩ := pl_l hf
  refine zg_topl ex12 ?_
  refine zg_lstore_n (L' := [(2, .long x12), (1, .int b1.1), (0, .ref q0)]) X dX8_digest_87 rfl (by decide) rfl ?_
  refine zg_ldc2 (v := 31) X dX8_digest_88 hw3 ?_
  refine zg_lload_n X dX8_digest_91 rfl 0 rfl ?_
  refine zg_lmul X dX8_digest_92 ?_
  refine zg_aload_n X dX8_digest_93 rfl 2 rfl ?_
  refine zg_get (C := RX8) (T := TX8) (N := 17) X 0 7 hiX8 rfl rfl (by decide) hw4 rfl dX8_digest_94 ?_
  refine zg_i2l X dX8_digest_97 ?_
  refine zg_ladd X dX8_digest_98 ?_
  obtain ⟨x13, ex13, hf⟩ := pl_l hf
  refine zg_topl ex13 ?_
  refine zg_lstore_n (L' := [(2, .long x13), (1, .int b1.1), (0, .ref q0)]) X dX8_digest_99 rfl (by decide) rfl ?_
  refine zg_ldc2 (v := 31) X dX8_digest_100 hw3 ?_
  refine zg_lload_n X dX8_digest_103 rfl 0 rfl ?_
  refine zg_lmul X dX8_digest_104 ?_
  refine zg_aload_n X dX8_digest_105 rfl 2 rfl ?_
  refine zg_get (C := RX8) (T := TX8) (N := 17) X 0 11 hiX8 rfl rfl (by decide) hw5 rfl dX8_digest_106 ?_
  refine zg_i2l X dX8_digest_109 ?_
  refine zg_ladd X dX8_digest_110 ?_
  refine zg_pc 111 rfl ?_
  obtain ⟨x14, ex14, hf⟩ := pl_l hf
  refine zg_topl ex14 ?_
  refine zg_lstore_n (L' := [(2, .long x14), (1, .int b1.1), (0, .ref q0)]) X dX8_digest_111 rfl (by decide) rfl ?_
  refine zg_ldc2 (v := 31) X dX8_digest_112 hw3 ?_
  refine zg_lload_n X dX8_digest_115 rfl 0 rfl ?_
  refine zg_lmul X dX8_digest_116 ?_
  refine zg_aload_n X dX8_digest_117 rfl 2 rfl ?_
  refine zg_iconst (v := 2) X dX8_digest_118 (by decide) ?_
  obtain ⟨b15, hb15, hf⟩ := pl_b hf
  refine zg_cP1 X (zg_runV X (zc_X8_withBit G q0 q1 q2 q3 q4 q5 q6 q7 q8 b2 2 fu b15 hb15) gX8_digest_X8_withBit rfl zh_X8_withBit ⟨rfl, rfl⟩ ⟨Nat.le_of_ble_eq_true rfl, Nat.le_of_ble_eq_true rfl⟩ rfl rfl rfl (Nat.le_of_ble_eq_true rfl) ⟨Nat.le_of_ble_eq_true rfl, Nat.le_of_ble_eq_true rfl⟩ [0, 1, 2, 3, 4, 5, 6, 7, 8] (by decide) rfl rfl dX8_digest_119) rfl ?_
  refine zg_i2l X dX8_digest_122 ?_
  refine zg_ladd X dX8_digest_123 ?_
  obtain ⟨x16, ex16, hf⟩ := pl_l hf
  refine zg_topl ex16 ?_
  refine zg_lstore_n (L' := [(2, .long x16), (1, .int b1.1), (0, .ref q0)]) X dX8_digest_124 rfl (by decide) rfl ?_
  refine zg_ldc2 (v := 31) X dX8_digest_125 hw3 ?_
  refine zg_lload_n X dX8_digest_128 rfl 0 rfl ?_
  refine zg_lmul X dX8_digest_129 ?_
  refine zg_aload_n X dX8_digest_130 rfl 2 rfl ?_
  refine zg_iconst (v := 4) X dX8_digest_131 (by decide) ?_
  obtain ⟨b17, hb17, hf⟩ := pl_b hf
  refine zg_cP1 X (zg_runV X (zc_X8_withBit G q0 q1 q2 q3 q4 q5 q6 q7 q8 b2 4 fu b17 hb17) gX8_digest_X8_withBit rfl zh_X8_withBit ⟨rfl, rfl⟩ ⟨Nat.le_of_ble_eq_true rfl, Nat.le_of_ble_eq_true rfl⟩ rfl rfl rfl (Nat.le_of_ble_eq_true rfl) ⟨Nat.le_of_ble_eq_true rfl, Nat.le_of_ble_eq_true rfl⟩ [0, 1, 2, 3, 4, 5, 6, 7, 8] (by decide) rfl rfl dX8_digest_132) rfl ?_
  refine zg_i2l X dX8_digest_135 ?_
  refine zg_ladd X dX8_digest_136 ?_
  obtain ⟨x18, ex18, hf⟩ := pl_l hf
  refine zg_topl ex18 ?_
  refine zg_lstore_n (L' := [(2, .long x18), (1, .int b1.1), (0, .ref q0)]) X dX8_digest_137 rfl (by decide) rfl ?_
  refine zg_ldc2 (v := 31) X dX8_digest_138 hw3 ?_
  refine zg_lload_n X dX8_digest_141 rfl 0 rfl ?_
  refine zg_lmul X dX8_digest_142 ?_
  refine zg_aload_n X dX8_digest_143 rfl 2 rfl ?_
  refine zg_get (C := RX8) (T := TX8) (N := 17) X 0 12 hiX8 rfl rfl (by decide) hw6 rfl dX8_digest_144 ?_
  refine zg_pc 147 rfl ?_
  refine zg_i2l X dX8_digest_147 ?_
  refine zg_ladd X dX8_digest_148 ?_
  obtain ⟨x19, ex19, hf⟩ := pl_l hf
  refine zg_topl ex19 ?_
  refine zg_lstore_n (L' := [(2, .long x19), (1, .int b1.1), (0, .ref q0)]) X dX8_digest_149 rfl (by decide) rfl ?_
  refine zg_ldc2 (v := 31) X dX8_digest_150 hw3 ?_
  refine zg_lload_n X dX8_digest_153 rfl 0 rfl ?_
  refine zg_lmul X dX8_digest_154 ?_
  refine zg_aload_n X dX8_digest_155 rfl 2 rfl ?_
  refine zg_get (C := RX8) (T := TX8) (N := 17) X 0 13 hiX8 rfl rfl (by decide) hw7 rfl dX8_digest_156 ?_
  refine zg_i2l X dX8_digest_159 ?_
  refine zg_ladd X dX8_digest_160 ?_
  obtain ⟨x20, ex20, hf⟩ := pl_l hf
  refine zg_topl ex20 ?_
  refine zg_lstore_n (L' := [(2, .long x20), (1, .int b1.1), (0, .ref q0)]) X dX8_digest_161 rfl (by decide) rfl ?_
  refine zg_ldc2 (v := 31) X dX8_digest_162 hw3 ?_
  refine zg_lload_n X dX8_digest_165 rfl 0 rfl ?_
  refine zg_lmul X dX8_digest_166 ?_
  refine zg_aload_n X dX8_digest_167 rfl 2 rfl ?_
  refine zg_get (C := RX8) (T := TX8) (N := 17) X 0 14 hiX8 rfl rfl (by decide) hw8 rfl dX8_digest_168 ?_
  refine zg_i2l X dX8_digest_171 ?_
  refine zg_ladd X dX8_digest_172 ?_
  obtain ⟨x21, ex21, hf⟩ := pl_l hf
  refine zg_topl ex21 ?_
  refine zg_lstore_n (L' := [(2, .long x21), (1, .int b1.1), (0, .ref q0)]) X dX8_digest_173 rfl (by decide) rfl ?_
  refine zg_ldc2 (v := 31) X dX8_digest_174 hw3 ?_
  refine zg_lload_n X dX8_digest_177 rfl 0 rfl ?_
  refine zg_lmul X dX8_digest_178 ?_
  refine zg_aload_n X dX8_digest_179 rfl 2 rfl ?_
  obtain ⟨b22, hb22, hf⟩ := pl_b hf
  refine zg_cP1 X (zg_runV X (zc_X8_wrong G q0 q1 q2 q3 q4 q5 q6 q7 q8 b2 fu b22 hb22) gX8_digest_X8_wrong rfl zh_X8_wrong ⟨rfl, rfl⟩ ⟨Nat.le_of_ble_eq_true rfl, Nat.le_of_ble_eq_true rfl⟩ rfl rfl rfl (Nat.le_of_ble_eq_true rfl) ⟨Nat.le_of_ble_eq_true rfl, Nat.le_of_ble_eq_true rfl⟩ [0, 1, 2, 3, 4, 5, 6, 7, 8] (by decide) rfl rfl dX8_digest_180) rfl ?_
  refine zg_pc 183 rfl ?_
  refine zg_i2l X dX8_digest_183 ?_
  refine zg_ladd X dX8_digest_184 ?_
  obtain ⟨x23, ex23, hf⟩ := pl_l hf
  refine zg_topl ex23 ?_
  refine zg_lstore_n (L' := [(2, .long x23), (1, .int b1.1), (0, .ref q0)]) X dX8_digest_185 rfl (by decide) rfl ?_
  refine zg_ldc2 (v := 31) X dX8_digest_186 hw3 ?_
  refine zg_lload_n X dX8_digest_189 rfl 0 rfl ?_
  refine zg_lmul X dX8_digest_190 ?_
  refine zg_iload_n X dX8_digest_191 rfl 1 rfl ?_
  refine zg_i2l X dX8_digest_192 ?_
  refine zg_ladd X dX8_digest_193 ?_
  obtain ⟨x24, ex24, hf⟩ := pl_l hf
  refine zg_topl ex24 ?_
  refine zg_lstore_n (L' := [(2, .long x24), (1, .int b1.1), (0, .ref q0)]) X dX8_digest_194 rfl (by decide) rfl ?_
  refine zg_iconst (v := 0) X dX8_digest_195 (by decide) ?_
  refine zg_istore (L' := [(4, .int 0), (2, .long x24), (1, .int b1.1), (0, .ref q0)]) X dX8_digest_196 (by decide) rfl ?_
  refine zg_loc [3, 1, 0] rfl ?_
  exact hL198 fu x24 0 b2.1 b2.2.1 b2.2.2.1 b2.2.2.2.1 b2.2.2.2.2.1 b2.2.2.2.2.2.1 b2.2.2.2.2.2.2.1 b2.2.2.2.2.2.2.2.1 b2.2.2.2.2.2.2.2.2.1 b2.2.2.2.2.2.2.2.2.2.1 b2.2.2.2.2.2.2.2.2.2.2.1 b2.2.2.2.2.2.2.2.2.2.2.2.1 b2.2.2.2.2.2.2.2.2.2.2.2.2.1 b2.2.2.2.2.2.2.2.2.2.2.2.2.2.1 b2.2.2.2.2.2.2.2.2.2.2.2.2.2.2.1 b2.2.2.2.2.2.2.2.2.2.2.2.2.2.2.2.1 b2.2.2.2.2.2.2.2.2.2.2.2.2.2.2.2.2 hf
