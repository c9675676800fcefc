theorem zh_X4_reset : yX4_reset.cls = RX4 ∧ yX4_reset.cls ≠ "java/lang/invoke/MethodHandle" ∧ yX4_reset.cls ≠ "java/lang/invoke/VarHandle" ∧ (parseMethodDescriptor yX4_reset.desc).map (fun d => d.parameters.length) = some 0 := by decide +kernel
set_option maxHeartbeats 8000000 in
set_option maxRecDepth 100000 in
theorem zc_X4_reset (G : zgG) (q0 q1 q2 q3 q4 q5 q6 q7 q8 q9 q10 : Nat) (v0 : zPrinter) (fu : Nat) (res : zPrinter) (hf : zf_X4_reset fu v0 = some res) : zgCt G yX4_reset wsX4_reset ({ frames := 1, cells := 0, slots := 0, locals := 20 } : Room) [.ref q0] [(q0, .inr (3, [.ref q1, .ref q3, .ref q5, .ref q7, .ref q9, .int v0.2.2.2.2.2.1, .int v0.2.2.2.2.2.2.1, .int v0.2.2.2.2.2.2.2])), (q1, .inr (4, [.ref q2, .int v0.1.2])), (q2, .inl (G.2.2.1, 200, .inl v0.1.1)), (q3, .inr (4, [.ref q4, .int v0.2.1.2])), (q4, .inl (G.2.2.1, 200, .inl v0.2.1.1)), (q5, .inr (4, [.ref q6, .int v0.2.2.1.2])), (q6, .inl (G.2.2.1, 200, .inl v0.2.2.1.1)), (q7, .inr (4, [.ref q8, .int v0.2.2.2.1.2])), (q8, .inl (G.2.2.1, 200, .inl v0.2.2.2.1.1)), (q9, .inr (4, [.ref q10, .int v0.2.2.2.2.1.2])), (q10, .inl (G.2.2.1, 200, .inl v0.2.2.2.2.1.1))] (fun _ : Unit => none) (fun _ => [(q0, .inr (3, [.ref q1, .ref q3, .ref q5, .ref q7, .ref q9, .int res.2.2.2.2.2.1, .int res.2.2.2.2.2.2.1, .int res.2.2.2.2.2.2.2])), (q1, .inr (4, [.ref q2, .int res.1.2])), (q2, .inl (G.2.2.1, 200, .inl res.1.1)), (q3, .inr (4, [.ref q4, .int res.2.1.2])), (q4, .inl (G.2.2.1, 200, .inl res.2.1.1)), (q5, .inr (4, [.ref q6, .int res.2.2.1.2])), (q6, .inl (G.2.2.1, 200, .inl res.2.2.1.1)), (q7, .inr (4, [.ref q8, .int res.2.2.2.1.2])), (q8, .inl (G.2.2.1, 200, .inl res.2.2.2.1.1)), (q9, .inr (4, [.ref q10, .int res.2.2.2.2.1.2])), (q10, .inl (G.2.2.1, 200, .inl res.2.2.2.2.1.1))]) 0 0 := by
  have hw0 : Cond.fieldLink RX4 14 "TelexReceiver$Printer" "printedRow" "LTelexReceiver$Row;" ∈ wsX4_reset := by decide +kernel
  have hw1 : Cond.fieldLink RX4 20 "TelexReceiver$Printer" "startRow" "LTelexReceiver$Row;" ∈ wsX4_reset := by decide +kernel
  have hw2 : Cond.fieldLink RX4 23 "TelexReceiver$Printer" "lengthRow" "LTelexReceiver$Row;" ∈ wsX4_reset := by decide +kernel
  have hw3 : Cond.fieldLink RX4 26 "TelexReceiver$Printer" "kindRow" "LTelexReceiver$Row;" ∈ wsX4_reset := by decide +kernel
  have hw4 : Cond.fieldLink RX4 29 "TelexReceiver$Printer" "wordRow" "LTelexReceiver$Row;" ∈ wsX4_reset := by decide +kernel
  have hw5 : Cond.fieldLink RX4 32 "TelexReceiver$Printer" "shift" "I" ∈ wsX4_reset := by decide +kernel
  have hw6 : Cond.fieldLink RX4 73 "TelexReceiver$Printer" "bellCount" "I" ∈ wsX4_reset := by decide +kernel
  have hw7 : Cond.fieldLink RX4 76 "TelexReceiver$Printer" "questionCount" "I" ∈ wsX4_reset := by decide +kernel
  have hiX4 : ∀ w ∈ u_ws RX4 TX4 8, w ∈ wsX4_reset := by decide +kernel
  refine zg_of (own := RX4) (cc := cX4_reset) (nL := 1) (ret := none) (by decide +kernel) rfl rfl (Nat.le_of_ble_eq_true rfl) (fun Z X hF => ?_)
  show zgGd G Z _ 0 0 1 _ 0 [(0, .ref q0)] []
  unfold zf_X4_reset at hf
  refine zg_aload_n X dX4_reset_0 rfl 0 rfl ?_
  refine zg_get (C := RX4) (T := TX4) (N := 8) X 0 0 hiX4 rfl rfl (by decide) hw0 rfl dX4_reset_1 ?_
  obtain ⟨b1, hb1, hf⟩ := pl_b hf
  refine zg_cU0 (ws2 := [(q0, .inr (3, [.ref q1, .ref q3, .ref q5, .ref q7, .ref q9, .int v0.2.2.2.2.2.1, .int v0.2.2.2.2.2.2.1, .int v0.2.2.2.2.2.2.2])), (q1, .inr (4, [.ref q2, .int b1.2])), (q2, .inl (G.2.2.1, 200, .inl b1.1)), (q3, .inr (4, [.ref q4, .int v0.2.1.2])), (q4, .inl (G.2.2.1, 200, .inl v0.2.1.1)), (q5, .inr (4, [.ref q6, .int v0.2.2.1.2])), (q6, .inl (G.2.2.1, 200, .inl v0.2.2.1.1)), (q7, .inr (4, [.ref q8, .int v0.2.2.2.1.2])), (q8, .inl (G.2.2.1, 200, .inl v0.2.2.2.1.1)), (q9, .inr (4, [.ref q10, .int v0.2.2.2.2.1.2])), (q10, .inl (G.2.2.1, 200, .inl v0.2.2.2.2.1.1))]) X (zg_runV X (zc_X5_clear G q1 q2 200 v0.1 fu b1 hb1) gX4_reset_X5_clear rfl zh_X5_clear ⟨rfl, rfl⟩ ⟨Nat.le_of_ble_eq_true rfl, Nat.le_of_ble_eq_true rfl⟩ rfl rfl rfl (Nat.le_of_ble_eq_true rfl) ⟨Nat.le_of_ble_eq_true rfl, Nat.le_of_ble_eq_true rfl⟩ [1, 2] (by decide) rfl rfl dX4_reset_4) rfl rfl ?_
  refine zg_aload_n X dX4_reset_7 rfl 0 rfl ?_
  refine zg_get (C := RX4) (T := TX4) (N := 8) X 0 1 hiX4 rfl rfl (by decide) hw1 rfl dX4_reset_8 ?_
  obtain ⟨b2, hb2, hf⟩ := pl_b hf
  refine zg_cU0 (ws2 := [(q0, .inr (3, [.ref q1, .ref q3, .ref q5, .ref q7, .ref q9, .int v0.2.2.2.2.2.1, .int v0.2.2.2.2.2.2.1, .int v0.2.2.2.2.2.2.2])), (q1, .inr (4, [.ref q2, .int b1.2])), (q2, .inl (G.2.2.1, 200, .inl b1.1)), (q3, .inr (4, [.ref q4, .int b2.2])), (q4, .inl (G.2.2.1, 200, .inl b2.1)), (q5, .inr (4, [.ref q6, .int v0.2.2.1.2])), (q6, .inl (G.2.2.1, 200, .inl v0.2.2.1.1)), (q7, .inr (4, [.ref q8, .int v0.2.2.2.1.2])), (q8, .inl (G.2.2.1, 200, .inl v0.2.2.2.1.1)), (q9, .inr (4, [.ref q10, .int v0.2.2.2.2.1.2])), (q10, .inl (G.2.2.1, 200, .inl v0.2.2.2.2.1.1))]) X (zg_runV X (zc_X5_clear G q3 q4 200 v0.2.1 fu b2 hb2) gX4_reset_X5_clear rfl zh_X5_clear ⟨rfl, rfl⟩ ⟨Nat.le_of_ble_eq_true rfl, Nat.le_of_ble_eq_true rfl⟩ rfl rfl rfl (Nat.le_of_ble_eq_true rfl) ⟨Nat.le_of_ble_eq_true rfl, Nat.le_of_ble_eq_true rfl⟩ [3, 4] (by decide) rfl rfl dX4_reset_11) rfl rfl ?_
  refine zg_aload_n X dX4_reset_14 rfl 0 rfl ?_
  refine zg_get (C := RX4) (T := TX4) (N := 8) X 0 2 hiX4 rfl rfl (by decide) hw2 rfl dX4_reset_15 ?_
  obtain ⟨b3, hb3, hf⟩ := pl_b hf
  refine zg_cU0 (ws2 := [(q0, .inr (3, [.ref q1, .ref q3, .ref q5, .ref q7, .ref q9, .int v0.2.2.2.2.2.1, .int v0.2.2.2.2.2.2.1, .int v0.2.2.2.2.2.2.2])), (q1, .inr (4, [.ref q2, .int b1.2])), (q2, .inl (G.2.2.1, 200, .inl b1.1)), (q3, .inr (4, [.ref q4, .int b2.2])), (q4, .inl (G.2.2.1, 200, .inl b2.1)), (q5, .inr (4, [.ref q6, .int b3.2])), (q6, .inl (G.2.2.1, 200, .inl b3.1)), (q7, .inr (4, [.ref q8, .int v0.2.2.2.1.2])), (q8, .inl (G.2.2.1, 200, .inl v0.2.2.2.1.1)), (q9, .inr (4, [.ref q10, .int v0.2.2.2.2.1.2])), (q10, .inl (G.2.2.1, 200, .inl v0.2.2.2.2.1.1))]) X (zg_runV X (zc_X5_clear G q5 q6 200 v0.2.2.1 fu b3 hb3) gX4_reset_X5_clear rfl zh_X5_clear ⟨rfl, rfl⟩ ⟨Nat.le_of_ble_eq_true rfl, Nat.le_of_ble_eq_true rfl⟩ rfl rfl rfl (Nat.le_of_ble_eq_true rfl) ⟨Nat.le_of_ble_eq_true rfl, Nat.le_of_ble_eq_true rfl⟩ [5, 6] (by decide) rfl rfl dX4_reset_18) rfl rfl ?_
  refine zg_aload_n X dX4_reset_21 rfl 0 rfl ?_
  refine zg_get (C := RX4) (T := TX4) (N := 8) X 0 3 hiX4 rfl rfl (by decide) hw3 rfl dX4_reset_22 ?_
  obtain ⟨b4, hb4, hf⟩ := pl_b hf
  refine zg_cU0 (ws2 := [(q0, .inr (3, [.ref q1, .ref q3, .ref q5, .ref q7, .ref q9, .int v0.2.2.2.2.2.1, .int v0.2.2.2.2.2.2.1, .int v0.2.2.2.2.2.2.2])), (q1, .inr (4, [.ref q2, .int b1.2])), (q2, .inl (G.2.2.1, 200, .inl b1.1)), (q3, .inr (4, [.ref q4, .int b2.2])), (q4, .inl (G.2.2.1, 200, .inl b2.1)), (q5, .inr (4, [.ref q6, .int b3.2])), (q6, .inl (G.2.2.1, 200, .inl b3.1)), (q7, .inr (4, [.ref q8, .int b4.2])), (q8, .inl (G.2.2.1, 200, .inl b4.1)), (q9, .inr (4, [.ref q10, .int v0.2.2.2.2.1.2])), (q10, .inl (G.2.2.1, 200, .inl v0.2.2.2.2.1.1))]) X (zg_runV X (zc_X5_clear G q7 q8 200 v0.2.2.2.1 fu b4 hb4) gX4_reset_X5_clear rfl zh_X5_clear ⟨rfl, rfl⟩ ⟨Nat.le_of_ble_eq_true rfl, Nat.le_of_ble_eq_true rfl⟩ rfl rfl rfl (Nat.le_of_ble_eq_true rfl) ⟨Nat.le_of_ble_eq_true rfl, Nat.le_of_ble_eq_true rfl⟩ [7, 8] (by decide) rfl rfl dX4_reset_25) rfl rfl ?_
  refine zg_aload_n X dX4_reset_28 rfl 0 rfl ?_
  refine zg_get (C := RX4) (T := TX4) (N := 8) X 0 4 hiX4 rfl rfl (by decide) hw4 rfl dX4_reset_29 ?_
  obtain ⟨b5, hb5, hf⟩ := pl_b hf
  refine zg_cU0 (ws2 := [(q0, .inr (3, [.ref q1, .ref q3, .ref q5, .ref q7, .ref q9, .int v0.2.2.2.2.2.1, .int v0.2.2.2.2.2.2.1, .int v0.2.2.2.2.2.2.2])), (q1, .inr (4, [.ref q2, .int b1.2])), (q2, .inl (G.2.2.1, 200, .inl b1.1)), (q3, .inr (4, [.ref q4, .int b2.2])), (q4, .inl (G.2.2.1, 200, .inl b2.1)), (q5, .inr (4, [.ref q6, .int b3.2])), (q6, .inl (G.2.2.1, 200, .inl b3.1)), (q7, .inr (4, [.ref q8, .int b4.2])), (q8, .inl (G.2.2.1, 200, .inl b4.1)), (q9, .inr (4, [.ref q10, .int b5.2])), (q10, .inl (G.2.2.1, 200, .inl b5.1))]) X (zg_runV X (zc_X5_clear G q9 q10 200 v0.2.2.2.2.1 fu b5 hb5) gX4_reset_X5_clear rfl zh_X5_clear ⟨rfl, rfl⟩ ⟨Nat.le_of_ble_eq_true rfl, Nat.le_of_ble_eq_true rfl⟩ rfl rfl rfl (Nat.le_of_ble_eq_true rfl) ⟨Nat.le_of_ble_eq_true rfl, Nat.le_of_ble_eq_true rfl⟩ [9, 10] (by decide) rfl rfl dX4_reset_32) rfl rfl ?_
  refine zg_aload_n X dX4_reset_35 rfl 0 rfl ?_
  refine zg_iconst (v := 0) X dX4_reset_36 (by decide) ?_
  refine zg_put (C := RX4) (T := TX4) (N := 8) (ty := .int) (ws' := [(q0, .inr (3, [.ref q1, .ref q3, .ref q5, .ref q7, .ref q9, .int 0, .int v0.2.2.2.2.2.2.1, .int v0.2.2.2.2.2.2.2])), (q1, .inr (4, [.ref q2, .int b1.2])), (q2, .inl (G.2.2.1, 200, .inl b1.1)), (q3, .inr (4, [.ref q4, .int b2.2])), (q4, .inl (G.2.2.1, 200, .inl b2.1)), (q5, .inr (4, [.ref q6, .int b3.2])), (q6, .inl (G.2.2.1, 200, .inl b3.1)), (q7, .inr (4, [.ref q8, .int b4.2])), (q8, .inl (G.2.2.1, 200, .inl b4.1)), (q9, .inr (4, [.ref q10, .int b5.2])), (q10, .inl (G.2.2.1, 200, .inl b5.1))]) X 0 5 hiX4 tyX4 tyX4_ok nmX4 rfl rfl (by decide) hw5 rfl (by decide +kernel) rfl rfl (Nat.le_of_ble_eq_true rfl) rfl dX4_reset_37 ?_
  refine zg_aload_n X dX4_reset_40 rfl 0 rfl ?_
  refine zg_iconst (v := 0) X dX4_reset_41 (by decide) ?_
  refine zg_put (C := RX4) (T := TX4) (N := 8) (ty := .int) (ws' := [(q0, .inr (3, [.ref q1, .ref q3, .ref q5, .ref q7, .ref q9, .int 0, .int 0, .int v0.2.2.2.2.2.2.2])), (q1, .inr (4, [.ref q2, .int b1.2])), (q2, .inl (G.2.2.1, 200, .inl b1.1)), (q3, .inr (4, [.ref q4, .int b2.2])), (q4, .inl (G.2.2.1, 200, .inl b2.1)), (q5, .inr (4, [.ref q6, .int b3.2])), (q6, .inl (G.2.2.1, 200, .inl b3.1)), (q7, .inr (4, [.ref q8, .int b4.2])), (q8, .inl (G.2.2.1, 200, .inl b4.1)), (q9, .inr (4, [.ref q10, .int b5.2])), (q10, .inl (G.2.2.1, 200, .inl b5.1))]) X 0 6 hiX4 tyX4 tyX4_ok nmX4 rfl rfl (by decide) hw6 rfl (by decide +kernel) rfl rfl (Nat.le_of_ble_eq_true rfl) rfl dX4_reset_42 ?_
  refine zg_aload_n X dX4_reset_45 rfl 0 rfl ?_
  refine zg_iconst (v := 0) X dX4_reset_46 (by decide) ?_
  refine zg_pc 47 rfl ?_
  refine zg_put (C := RX4) (T := TX4) (N := 8) (ty := .int) (ws' := [(q0, .inr (3, [.ref q1, .ref q3, .ref q5, .ref q7, .ref q9, .int 0, .int 0, .int 0])), (q1, .inr (4, [.ref q2, .int b1.2])), (q2, .inl (G.2.2.1, 200, .inl b1.1)), (q3, .inr (4, [.ref q4, .int b2.2])), (q4, .inl (G.2.2.1, 200, .inl b2.1)), (q5, .inr (4, [.ref q6, .int b3.2])), (q6, .inl (G.2.2.1, 200, .inl b3.1)), (q7, .inr (4, [.ref q8, .int b4.2])), (q8, .inl (G.2.2.1, 200, .inl b4.1)), (q9, .inr (4, [.ref q10, .int b5.2])), (q10, .inl (G.2.2.1, 200, .inl b5.1))]) X 0 7 hiX4 tyX4 tyX4_ok nmX4 rfl rfl (by decide) hw7 rfl (by decide +kernel) rfl rfl (Nat.le_of_ble_eq_true rfl) rfl dX4_reset_47 ?_
  have hf := Option.some.inj hf
  subst hf
  exact zg_vret X hF () rfl rfl (Nat.le_of_ble_eq_true rfl) (Nat.le_of_ble_eq_true rfl) dX4_reset_50
theorem zh_X4_obey : yX4_obey.cls = RX4 ∧ yX4_obey.cls ≠ "java/lang/invoke/MethodHandle" ∧ yX4_obey.cls ≠ "java/lang/invoke/VarHandle" ∧ (parseMethodDescriptor yX4_obey.desc).map (fun d => d.parameters.length) = some 2 := by decide +kernel
set_option maxHeartbeats 8000000 in
set_option maxRecDepth 100000 in
theorem zc_X4_obey (G : zgG) (q0 q1 q2 q3 q4 q5 q6 q7 q8 q9 q10 : Nat) (v0 : zPrinter) (a1 : Int32) (a2 : Int32) (fu : Nat) (res : zPrinter) (hf : zf_X4_obey fu v0 a1 a2 = some res) : zgCt G yX4_obey wsX4_obey ({ frames := 5, cells := 0, slots := 0, locals := 107 } : Room) [.ref q0, .int a1, .int a2] [(q0, .inr (3, [.ref q1, .ref q3, .ref q5, .ref q7, .ref q9, .int v0.2.2.2.2.2.1, .int v0.2.2.2.2.2.2.1, .int v0.2.2.2.2.2.2.2])), (q1, .inr (4, [.ref q2, .int v0.1.2])), (q2, .inl (G.2.2.1, 200, .inl v0.1.1)), (q3, .inr (4, [.ref q4, .int v0.2.1.2])), (q4, .inl (G.2.2.1, 200, .inl v0.2.1.1)), (q5, .inr (4, [.ref q6, .int v0.2.2.1.2])), (q6, .inl (G.2.2.1, 200, .inl v0.2.2.1.1)), (q7, .inr (4, [.ref q8, .int v0.2.2.2.1.2])), (q8, .inl (G.2.2.1, 200, .inl v0.2.2.2.1.1)), (q9, .inr (4, [.ref q10, .int v0.2.2.2.2.1.2])), (q10, .inl (G.2.2.1, 200, .inl v0.2.2.2.2.1.1))] (fun _ : Unit => none) (fun _ => [(q0, .inr (3, [.ref q1, .ref q3, .ref q5, .ref q7, .ref q9, .int res.2.2.2.2.2.1, .int res.2.2.2.2.2.2.1, .int res.2.2.2.2.2.2.2])), (q1, .inr (4, [.ref q2, .int res.1.2])), (q2, .inl (G.2.2.1, 200, .inl res.1.1)), (q3, .inr (4, [.ref q4, .int res.2.1.2])), (q4, .inl (G.2.2.1, 200, .inl res.2.1.1)), (q5, .inr (4, [.ref q6, .int res.2.2.1.2])), (q6, .inl (G.2.2.1, 200, .inl res.2.2.1.1)), (q7, .inr (4, [.ref q8, .int res.2.2.2.1.2])), (q8, .inl (G.2.2.1, 200, .inl res.2.2.2.1.1)), (q9, .inr (4, [.ref q10, .int res.2.2.2.2.1.2])), (q10, .inl (G.2.2.1, 200, .inl res.2.2.2.2.1.1))]) 0 0 := by
  have hw0 : Cond.fieldLink RX4 32 "TelexReceiver$Printer" "shift" "I" ∈ wsX4_obey := by decide +kernel
  have hw1 : Cond.fieldLink RX4 73 "TelexReceiver$Printer" "bellCount" "I" ∈ wsX4_obey := by decide +kernel
  have hw2 : Cond.fieldLink RX4 76 "TelexReceiver$Printer" "questionCount" "I" ∈ wsX4_obey := by decide +kernel
  have hw3 : Cond.fieldLink RX4 14 "TelexReceiver$Printer" "printedRow" "LTelexReceiver$Row;" ∈ wsX4_obey := by decide +kernel
  have hiX4 : ∀ w ∈ u_ws RX4 TX4 8, w ∈ wsX4_obey := by decide +kernel
  refine zg_of (own := RX4) (cc := cX4_obey) (nL := 4) (ret := none) (by decide +kernel) rfl rfl (Nat.le_of_ble_eq_true rfl) (fun Z X hF => ?_)
  show zgGd G Z _ 0 0 4 _ 0 [(0, .ref q0), (1, .int a1), (2, .int a2)] []
  have hb65 : ∀ (y1 : Int32) (y2 : Int32) (w0 : zRow) (w1 : Int32) (w2 : Int32) (w3 : Int32), zf_X4_obey_b65 fu v0 y1 y2 w0 w1 w2 w3 = some res → zgGd G Z ({ frames := 5, cells := 0, slots := 0, locals := 107 } : Room) 0 0 4 [(q0, .inr (3, [.ref q1, .ref q3, .ref q5, .ref q7, .ref q9, .int w1, .int w2, .int w3])), (q1, .inr (4, [.ref q2, .int w0.2])), (q2, .inl (G.2.2.1, 200, .inl w0.1)), (q3, .inr (4, [.ref q4, .int v0.2.1.2])), (q4, .inl (G.2.2.1, 200, .inl v0.2.1.1)), (q5, .inr (4, [.ref q6, .int v0.2.2.1.2])), (q6, .inl (G.2.2.1, 200, .inl v0.2.2.1.1)), (q7, .inr (4, [.ref q8, .int v0.2.2.2.1.2])), (q8, .inl (G.2.2.1, 200, .inl v0.2.2.2.1.1)), (q9, .inr (4, [.ref q10, .int v0.2.2.2.2.1.2])), (q10, .inl (G.2.2.1, 200, .inl v0.2.2.2.2.1.1))] 65 [(0, .ref q0), (1, .int y1), (2, .int y2)] [] := by
    intro y1 y2 w0 w1 w2 w3 hf
    unfold zf_X4_obey_b65 at hf
    refine zg_aload_n X dX4_obey_65 rfl 0 rfl ?_
    refine zg_iload_n X dX4_obey_66 rfl 1 rfl ?_
    refine zg_aload_n X dX4_obey_67 rfl 0 rfl ?_
    refine zg_get (C := RX4) (T := TX4) (N := 8) X 0 5 hiX4 rfl rfl (by decide) hw0 rfl dX4_obey_68 ?_
    refine zg_iload_n X dX4_obey_71 rfl 2 rfl ?_
    obtain ⟨b9, hb9, hf⟩ := pl_b hf
    refine zg_cP1 X (zg_runS X (zc_X0_shiftBehind G y1 w1 y2 fu b9 hb9) gX4_obey_X0_shiftBehind rfl zh_X0_shiftBehind.2 ⟨rfl, rfl⟩ ⟨Nat.le_of_ble_eq_true rfl, Nat.le_of_ble_eq_true rfl⟩ rfl (Nat.le_of_ble_eq_true rfl) ⟨Nat.le_of_ble_eq_true rfl, Nat.le_of_ble_eq_true rfl⟩ [] (by decide) rfl rfl dX4_obey_72) rfl ?_
    refine zg_put (C := RX4) (T := TX4) (N := 8) (ty := .int) (ws' := [(q0, .inr (3, [.ref q1, .ref q3, .ref q5, .ref q7, .ref q9, .int b9, .int w2, .int w3])), (q1, .inr (4, [.ref q2, .int w0.2])), (q2, .inl (G.2.2.1, 200, .inl w0.1)), (q3, .inr (4, [.ref q4, .int v0.2.1.2])), (q4, .inl (G.2.2.1, 200, .inl v0.2.1.1)), (q5, .inr (4, [.ref q6, .int v0.2.2.1.2])), (q6, .inl (G.2.2.1, 200, .inl v0.2.2.1.1)), (q7, .inr (4, [.ref q8, .int v0.2.2.2.1.2])), (q8, .inl (G.2.2.1, 200, .inl v0.2.2.2.1.1)), (q9, .inr (4, [.ref q10, .int v0.2.2.2.2.1.2])), (q10, .inl (G.2.2.1, 200, .inl v0.2.2.2.2.1.1))]) X 0 5 hiX4 tyX4 tyX4_ok nmX4 rfl rfl (by decide) hw0 rfl (by decide +kernel) rfl rfl (Nat.le_of_ble_eq_true rfl) rfl dX4_obey_75 ?_
    have hf := Option.some.inj hf
    subst hf
    exact zg_vret X hF () rfl rfl (Nat.le_of_ble_eq_true rfl) (Nat.le_of_ble_eq_true rfl) dX4_obey_78
  have hb43 : ∀ (y1 : Int32) (y2 : Int32) (w0 : zRow) (w1 : Int32) (w2 : Int32) (w3 : Int32), zf_X4_obey_b43 fu v0 y1 y2 w0 w1 w2 w3 = some res → zgGd G Z ({ frames := 5, cells := 0, slots := 0, locals := 107 } : Room) 0 0 4 [(q0, .inr (3, [.ref q1, .ref q3, .ref q5, .ref q7, .ref q9, .int w1, .int w2, .int w3])), (q1, .inr (4, [.ref q2, .int w0.2])), (q2, .inl (G.2.2.1, 200, .inl w0.1)), (q3, .inr (4, [.ref q4, .int v0.2.1.2])), (q4, .inl (G.2.2.1, 200, .inl v0.2.1.1)), (q5, .inr (4, [.ref q6, .int v0.2.2.1.2])), (q6, .inl (G.2.2.1, 200, .inl v0.2.2.1.1)), (q7, .inr (4, [.ref q8, .int v0.2.2.2.1.2])), (q8, .inl (G.2.2.1, 200, .inl v0.2.2.2.1.1)), (q9, .inr (4, [.ref q10, .int v0.2.2.2.2.1.2])), (q10, .inl (G.2.2.1, 200, .inl v0.2.2.2.2.1.1))] 43 [(0, .ref q0), (1, .int y1), (2, .int y2)] [] := by
    intro y1 y2 w0 w1 w2 w3 hf
    unfold zf_X4_obey_b43 at hf
    refine zg_iload_n X dX4_obey_43 rfl 1 rfl ?_
    refine zg_aload_n X dX4_obey_44 rfl 0 rfl ?_
    refine zg_get (C := RX4) (T := TX4) (N := 8) X 0 5 hiX4 rfl rfl (by decide) hw0 rfl dX4_obey_45 ?_
    obtain ⟨b6, hb6, hf⟩ := pl_b hf
    refine zg_cP1 X (zg_runS X (zc_X0_characterOf G y1 w1 fu b6 hb6) gX4_obey_X0_characterOf rfl zh_X0_characterOf.2 ⟨rfl, rfl⟩ ⟨Nat.le_of_ble_eq_true rfl, Nat.le_of_ble_eq_true rfl⟩ rfl (Nat.le_of_ble_eq_true rfl) ⟨Nat.le_of_ble_eq_true rfl, Nat.le_of_ble_eq_true rfl⟩ [] (by decide) rfl rfl dX4_obey_48) rfl ?_
    refine zg_istore_n (L' := [(3, .int b6), (0, .ref q0), (1, .int y1), (2, .int y2)]) X dX4_obey_51 rfl (by decide) rfl ?_
    refine zg_iload_n X dX4_obey_52 rfl 0 rfl ?_
    refine zg_iconst (v := (-1)) X dX4_obey_53 (by decide) ?_
    refine zg_icmp_eq (tgt := 65) X dX4_obey_54 (by decide) (fun c7 => ?_) (fun c7 => ?_)
    · have hf := pl_t c7 hf
      refine zg_loc [1, 2, 3] rfl ?_
      exact hb65 y1 y2 w0 w1 w2 w3 hf
    · have hf := pl_f c7 hf
      refine zg_aload_n X dX4_obey_57 rfl 1 rfl ?_
      refine zg_get (C := RX4) (T := TX4) (N := 8) X 0 0 hiX4 rfl rfl (by decide) hw3 rfl dX4_obey_58 ?_
      refine zg_iload_n X dX4_obey_61 rfl 0 rfl ?_
      obtain ⟨b8, hb8, hf⟩ := pl_b hf
      refine zg_cU0 (ws2 := [(q0, .inr (3, [.ref q1, .ref q3, .ref q5, .ref q7, .ref q9, .int w1, .int w2, .int w3])), (q1, .inr (4, [.ref q2, .int b8.2])), (q2, .inl (G.2.2.1, 200, .inl b8.1)), (q3, .inr (4, [.ref q4, .int v0.2.1.2])), (q4, .inl (G.2.2.1, 200, .inl v0.2.1.1)), (q5, .inr (4, [.ref q6, .int v0.2.2.1.2])), (q6, .inl (G.2.2.1, 200, .inl v0.2.2.1.1)), (q7, .inr (4, [.ref q8, .int v0.2.2.2.1.2])), (q8, .inl (G.2.2.1, 200, .inl v0.2.2.2.1.1)), (q9, .inr (4, [.ref q10, .int v0.2.2.2.2.1.2])), (q10, .inl (G.2.2.1, 200, .inl v0.2.2.2.2.1.1))]) X (zg_runV X (zc_X5_add G q1 q2 200 w0 b6 fu b8 hb8) gX4_obey_X5_add rfl zh_X5_add ⟨rfl, rfl⟩ ⟨Nat.le_of_ble_eq_true rfl, Nat.le_of_ble_eq_true rfl⟩ rfl rfl rfl (Nat.le_of_ble_eq_true rfl) ⟨Nat.le_of_ble_eq_true rfl, Nat.le_of_ble_eq_true rfl⟩ [1, 2] (by decide) rfl rfl dX4_obey_62) rfl rfl ?_
      refine zg_loc [1, 2, 3] rfl ?_
      exact hb65 y1 y2 b8 w1 w2 w3 hf
  have hb27 : ∀ (y1 : Int32) (y2 : Int32) (w0 : zRow) (w1 : Int32) (w2 : Int32) (w3 : Int32), zf_X4_obey_b27 fu v0 y1 y2 w0 w1 w2 w3 = some res → zgGd G Z ({ frames := 5, cells := 0, slots := 0, locals := 107 } : Room) 0 0 4 [(q0, .inr (3, [.ref q1, .ref q3, .ref q5, .ref q7, .ref q9, .int w1, .int w2, .int w3])), (q1, .inr (4, [.ref q2, .int w0.2])), (q2, .inl (G.2.2.1, 200, .inl w0.1)), (q3, .inr (4, [.ref q4, .int v0.2.1.2])), (q4, .inl (G.2.2.1, 200, .inl v0.2.1.1)), (q5, .inr (4, [.ref q6, .int v0.2.2.1.2])), (q6, .inl (G.2.2.1, 200, .inl v0.2.2.1.1)), (q7, .inr (4, [.ref q8, .int v0.2.2.2.1.2])), (q8, .inl (G.2.2.1, 200, .inl v0.2.2.2.1.1)), (q9, .inr (4, [.ref q10, .int v0.2.2.2.2.1.2])), (q10, .inl (G.2.2.1, 200, .inl v0.2.2.2.2.1.1))] 27 [(0, .ref q0), (1, .int y1), (2, .int y2)] [] := by
    intro y1 y2 w0 w1 w2 w3 hf
    unfold zf_X4_obey_b27 at hf
    refine zg_iload_n X dX4_obey_27 rfl 1 rfl ?_
    refine zg_bipush (v := 29) X dX4_obey_28 (by decide) ?_
    refine zg_icmp_ne (tgt := 43) X dX4_obey_30 (by decide) (fun c4 => ?_) (fun c4 => ?_)
    · have hf := pl_f c4 hf
      exact hb43 y1 y2 w0 w1 w2 w3 hf
    · have hf := pl_t c4 hf
      refine zg_aload_n X dX4_obey_33 rfl 0 rfl ?_
      refine zg_dup X dX4_obey_34 rfl ?_
      refine zg_get (C := RX4) (T := TX4) (N := 8) X 0 7 hiX4 rfl rfl (by decide) hw2 rfl dX4_obey_35 ?_
      refine zg_iconst (v := 1) X dX4_obey_38 (by decide) ?_
      refine zg_iadd X dX4_obey_39 ?_
      obtain ⟨x5, ex5, hf⟩ := pl_l hf
      refine zg_topi ex5 ?_
      refine zg_put (C := RX4) (T := TX4) (N := 8) (ty := .int) (ws' := [(q0, .inr (3, [.ref q1, .ref q3, .ref q5, .ref q7, .ref q9, .int w1, .int w2, .int x5])), (q1, .inr (4, [.ref q2, .int w0.2])), (q2, .inl (G.2.2.1, 200, .inl w0.1)), (q3, .inr (4, [.ref q4, .int v0.2.1.2])), (q4, .inl (G.2.2.1, 200, .inl v0.2.1.1)), (q5, .inr (4, [.ref q6, .int v0.2.2.1.2])), (q6, .inl (G.2.2.1, 200, .inl v0.2.2.1.1)), (q7, .inr (4, [.ref q8, .int v0.2.2.2.1.2])), (q8, .inl (G.2.2.1, 200, .inl v0.2.2.2.1.1)), (q9, .inr (4, [.ref q10, .int v0.2.2.2.2.1.2])), (q10, .inl (G.2.2.1, 200, .inl v0.2.2.2.2.1.1))]) X 0 7 hiX4 tyX4 tyX4_ok nmX4 rfl rfl (by decide) hw2 rfl (by decide +kernel) rfl rfl (Nat.le_of_ble_eq_true rfl) rfl dX4_obey_40 ?_
      exact hb43 y1 y2 w0 w1 w2 x5 hf
  unfold zf_X4_obey at hf
  refine zg_iload_n X dX4_obey_0 rfl 1 rfl ?_
  refine zg_bipush (v := 29) X dX4_obey_1 (by decide) ?_
  refine zg_icmp_ne (tgt := 27) X dX4_obey_3 (by decide) (fun c1 => ?_) (fun c1 => ?_)
  · have hf := pl_f c1 hf
    exact hb27 a1 a2 v0.1 v0.2.2.2.2.2.1 v0.2.2.2.2.2.2.1 v0.2.2.2.2.2.2.2 hf
  · have hf := pl_t c1 hf
    refine zg_aload_n X dX4_obey_6 rfl 0 rfl ?_
    refine zg_get (C := RX4) (T := TX4) (N := 8) X 0 5 hiX4 rfl rfl (by decide) hw0 rfl dX4_obey_7 ?_
    refine zg_iconst (v := 1) X dX4_obey_10 (by decide) ?_
    refine zg_icmp_ne (tgt := 27) X dX4_obey_11 (by decide) (fun c2 => ?_) (fun c2 => ?_)
    · have hf := pl_f c2 hf
      exact hb27 a1 a2 v0.1 v0.2.2.2.2.2.1 v0.2.2.2.2.2.2.1 v0.2.2.2.2.2.2.2 hf
    · have hf := pl_t c2 hf
      refine zg_aload_n X dX4_obey_14 rfl 0 rfl ?_
      refine zg_dup X dX4_obey_15 rfl ?_
      refine zg_get (C := RX4) (T := TX4) (N := 8) X 0 6 hiX4 rfl rfl (by decide) hw1 rfl dX4_obey_16 ?_
      refine zg_iconst (v := 1) X dX4_obey_19 (by decide) ?_
      refine zg_iadd X dX4_obey_20 ?_
      obtain ⟨x3, ex3, hf⟩ := pl_l hf
      refine zg_topi ex3 ?_
      refine zg_put (C := RX4) (T := TX4) (N := 8) (ty := .int) (ws' := [(q0, .inr (3, [.ref q1, .ref q3, .ref q5, .ref q7, .ref q9, .int v0.2.2.2.2.2.1, .int x3, .int v0.2.2.2.2.2.2.2])), (q1, .inr (4, [.ref q2, .int v0.1.2])), (q2, .inl (G.2.2.1, 200, .inl v0.1.1)), (q3, .inr (4, [.ref q4, .int v0.2.1.2])), (q4, .inl (G.2.2.1, 200, .inl v0.2.1.1)), (q5, .inr (4, [.ref q6, .int v0.2.2.1.2])), (q6, .inl (G.2.2.1, 200, .inl v0.2.2.1.1)), (q7, .inr (4, [.ref q8, .int v0.2.2.2.1.2])), (q8, .inl (G.2.2.1, 200, .inl v0.2.2.2.1.1)), (q9, .inr (4, [.ref q10, .int v0.2.2.2.2.1.2])), (q10, .inl (G.2.2.1, 200, .inl v0.2.2.2.2.1.1))]) X 0 6 hiX4 tyX4 tyX4_ok nmX4 rfl rfl (by decide) hw1 rfl (by decide +kernel) rfl rfl (Nat.le_of_ble_eq_true rfl) rfl dX4_obey_21 ?_
      refine zg_goto (tgt := 43) X dX4_obey_24 (by decide) ?_
      exact hb43 a1 a2 v0.1 v0.2.2.2.2.2.1 x3 v0.2.2.2.2.2.2.2 hf
theorem zh_X4_printSegment : yX4_printSegment.cls = RX4 ∧ yX4_printSegment.cls ≠ "java/lang/invoke/MethodHandle" ∧ yX4_printSegment.cls ≠ "java/lang/invoke/VarHandle" ∧ (parseMethodDescriptor yX4_printSegment.desc).map (fun d => d.parameters.length) = some 4 := by decide +kernel
set_option maxHeartbeats 8000000 in
set_option maxRecDepth 100000 in
theorem zc_X4_printSegment (G : zgG) (q0 q1 q2 q3 q4 q5 q6 q7 q8 q9 q10 q11 q12 q13 q14 q15 : Nat) (v0 : zPrinter) (v1 : zRow) (v4 : zRow) (a2 : Int32) (a3 : Int32) (fu : Nat) (res : zPrinter) (hf : zf_X4_printSegment fu v0 v1 v4 a2 a3 = some res) : zgCt G yX4_printSegment wsX4_printSegment ({ frames := 5, cells := 0, slots := 0, locals := 107 } : Room) [.ref q0, .ref q11, .int a2, .int a3, .ref q13] [(q0, .inr (3, [.ref q1, .ref q3, .ref q5, .ref q7, .ref q9, .int v0.2.2.2.2.2.1, .int v0.2.2.2.2.2.2.1, .int v0.2.2.2.2.2.2.2])), (q1, .inr (4, [.ref q2, .int v0.1.2])), (q2, .inl (G.2.2.1, 200, .inl v0.1.1)), (q3, .inr (4, [.ref q4, .int v0.2.1.2])), (q4, .inl (G.2.2.1, 200, .inl v0.2.1.1)), (q5, .inr (4, [.ref q6, .int v0.2.2.1.2])), (q6, .inl (G.2.2.1, 200, .inl v0.2.2.1.1)), (q7, .inr (4, [.ref q8, .int v0.2.2.2.1.2])), (q8, .inl (G.2.2.1, 200, .inl v0.2.2.2.1.1)), (q9, .inr (4, [.ref q10, .int v0.2.2.2.2.1.2])), (q10, .inl (G.2.2.1, 200, .inl v0.2.2.2.2.1.1)), (q11, .inr (4, [.ref q12, .int v1.2])), (q12, .inl (G.2.2.1, 200, .inl v1.1)), (q13, .inr (0, [.ref q14])), (q14, .inr (4, [.ref q15, .int v4.2])), (q15, .inl (G.2.2.1, 20, .inl v4.1))] (fun _ : Unit => none) (fun _ => [(q0, .inr (3, [.ref q1, .ref q3, .ref q5, .ref q7, .ref q9, .int res.2.2.2.2.2.1, .int res.2.2.2.2.2.2.1, .int res.2.2.2.2.2.2.2])), (q1, .inr (4, [.ref q2, .int res.1.2])), (q2, .inl (G.2.2.1, 200, .inl res.1.1)), (q3, .inr (4, [.ref q4, .int res.2.1.2])), (q4, .inl (G.2.2.1, 200, .inl res.2.1.1)), (q5, .inr (4, [.ref q6, .int res.2.2.1.2])), (q6, .inl (G.2.2.1, 200, .inl res.2.2.1.1)), (q7, .inr (4, [.ref q8, .int res.2.2.2.1.2])), (q8, .inl (G.2.2.1, 200, .inl res.2.2.2.1.1)), (q9, .inr (4, [.ref q10, .int res.2.2.2.2.1.2])), (q10, .inl (G.2.2.1, 200, .inl res.2.2.2.2.1.1)), (q11, .inr (4, [.ref q12, .int v1.2])), (q12, .inl (G.2.2.1, 200, .inl v1.1)), (q13, .inr (0, [.ref q14])), (q14, .inr (4, [.ref q15, .int v4.2])), (q15, .inl (G.2.2.1, 20, .inl v4.1))]) 0 0 := by
  have hw0 : Cond.fieldLink RX4 32 "TelexReceiver$Printer" "shift" "I" ∈ wsX4_printSegment := by decide +kernel
  have hw1 : Cond.fieldLink RX4 26 "TelexReceiver$Printer" "kindRow" "LTelexReceiver$Row;" ∈ wsX4_printSegment := by decide +kernel
  have hw2 : Cond.fieldLink RX4 20 "TelexReceiver$Printer" "startRow" "LTelexReceiver$Row;" ∈ wsX4_printSegment := by decide +kernel
  have hw3 : Cond.fieldLink RX4 23 "TelexReceiver$Printer" "lengthRow" "LTelexReceiver$Row;" ∈ wsX4_printSegment := by decide +kernel
  have hw4 : Cond.fieldLink RX4 29 "TelexReceiver$Printer" "wordRow" "LTelexReceiver$Row;" ∈ wsX4_printSegment := by decide +kernel
  have hw5 : Cond.fieldLink RX4 14 "TelexReceiver$Printer" "printedRow" "LTelexReceiver$Row;" ∈ wsX4_printSegment := by decide +kernel
  have hiX4 : ∀ w ∈ u_ws RX4 TX4 8, w ∈ wsX4_printSegment := by decide +kernel
  refine zg_of (own := RX4) (cc := cX4_printSegment) (nL := 7) (ret := none) (by decide +kernel) rfl rfl (Nat.le_of_ble_eq_true rfl) (fun Z X hF => ?_)
  show zgGd G Z _ 0 0 7 _ 0 [(0, .ref q0), (1, .ref q11), (2, .int a2), (3, .int a3), (4, .ref q13)] []
  have hL85 : ∀ (n : Nat) (y3 : Int32) (y6 : Int32) (w0 : zRow) (w1 : zRow) (w2 : zRow) (w3 : zRow) (w4 : zRow) (w5 : Int32), zf_X4_printSegment_L85 fu v0 v1 v4 n y3 y6 w0 w1 w2 w3 w4 w5 = some res → zgGd G Z ({ frames := 5, cells := 0, slots := 0, locals := 107 } : Room) 0 0 7 [(q0, .inr (3, [.ref q1, .ref q3, .ref q5, .ref q7, .ref q9, .int w5, .int v0.2.2.2.2.2.2.1, .int v0.2.2.2.2.2.2.2])), (q1, .inr (4, [.ref q2, .int w0.2])), (q2, .inl (G.2.2.1, 200, .inl w0.1)), (q3, .inr (4, [.ref q4, .int w1.2])), (q4, .inl (G.2.2.1, 200, .inl w1.1)), (q5, .inr (4, [.ref q6, .int w2.2])), (q6, .inl (G.2.2.1, 200, .inl w2.1)), (q7, .inr (4, [.ref q8, .int w3.2])), (q8, .inl (G.2.2.1, 200, .inl w3.1)), (q9, .inr (4, [.ref q10, .int w4.2])), (q10, .inl (G.2.2.1, 200, .inl w4.1)), (q11, .inr (4, [.ref q12, .int v1.2])), (q12, .inl (G.2.2.1, 200, .inl v1.1)), (q13, .inr (0, [.ref q14])), (q14, .inr (4, [.ref q15, .int v4.2])), (q15, .inl (G.2.2.1, 20, .inl v4.1))] 85 [(0, .ref q0), (1, .ref q11), (3, .int y3), (6, .int y6)] [] := by
    intro n
    induction n with
    | zero =>
      intro y3 y6 w0 w1 w2 w3 w4 w5 hf
      rw [zf_X4_printSegment_L85] at hf
      cases hf
    | succ n85 ih85 =>
      intro y3 y6 w0 w1 w2 w3 w4 w5 hf
      rw [zf_X4_printSegment_L85] at hf
      refine zg_iload X dX4_printSegment_85 3 rfl ?_
      refine zg_iload_n X dX4_printSegment_87 rfl 2 rfl ?_
      refine zg_icmp_ge (tgt := 117) X dX4_printSegment_88 (by decide) (fun c10 => ?_) (fun c10 => ?_)
      · have hf := pl_t c10 hf
        have hf := Option.some.inj hf
        subst hf
        exact zg_vret X hF () rfl rfl (Nat.le_of_ble_eq_true rfl) (Nat.le_of_ble_eq_true rfl) dX4_printSegment_117
      · have hf := pl_f c10 hf
        refine zg_aload_n X dX4_printSegment_91 rfl 0 rfl ?_
        refine zg_get (C := RX4) (T := TX4) (N := 8) X 0 0 hiX4 rfl rfl (by decide) hw5 rfl dX4_printSegment_92 ?_
        refine zg_aload_n X dX4_printSegment_95 rfl 1 rfl ?_
        refine zg_iload X dX4_printSegment_96 3 rfl ?_
        obtain ⟨b11, hb11, hf⟩ := pl_b hf
        refine zg_cP1 X (zg_runV X (zc_X5_at G q11 q12 200 v1 y6 fu b11 hb11) gX4_printSegment_X5_at rfl zh_X5_at ⟨rfl, rfl⟩ ⟨Nat.le_of_ble_eq_true rfl, Nat.le_of_ble_eq_true rfl⟩ rfl rfl rfl (Nat.le_of_ble_eq_true rfl) ⟨Nat.le_of_ble_eq_true rfl, Nat.le_of_ble_eq_true rfl⟩ [11, 12] (by decide) rfl rfl dX4_printSegment_98) rfl ?_
        refine zg_aload_n X dX4_printSegment_101 rfl 0 rfl ?_
        refine zg_get (C := RX4) (T := TX4) (N := 8) X 0 5 hiX4 rfl rfl (by decide) hw0 rfl dX4_printSegment_102 ?_
        obtain ⟨b12, hb12, hf⟩ := pl_b hf
        refine zg_cP1 X (zg_runS X (zc_X0_characterOf G b11 w5 fu b12 hb12) gX4_printSegment_X0_characterOf rfl zh_X0_characterOf.2 ⟨rfl, rfl⟩ ⟨Nat.le_of_ble_eq_true rfl, Nat.le_of_ble_eq_true rfl⟩ rfl (Nat.le_of_ble_eq_true rfl) ⟨Nat.le_of_ble_eq_true rfl, Nat.le_of_ble_eq_true rfl⟩ [] (by decide) rfl rfl dX4_printSegment_105) rfl ?_
        obtain ⟨b13, hb13, hf⟩ := pl_b hf
        refine zg_cU0 (ws2 := [(q0, .inr (3, [.ref q1, .ref q3, .ref q5, .ref q7, .ref q9, .int w5, .int v0.2.2.2.2.2.2.1, .int v0.2.2.2.2.2.2.2])), (q1, .inr (4, [.ref q2, .int b13.2])), (q2, .inl (G.2.2.1, 200, .inl b13.1)), (q3, .inr (4, [.ref q4, .int w1.2])), (q4, .inl (G.2.2.1, 200, .inl w1.1)), (q5, .inr (4, [.ref q6, .int w2.2])), (q6, .inl (G.2.2.1, 200, .inl w2.1)), (q7, .inr (4, [.ref q8, .int w3.2])), (q8, .inl (G.2.2.1, 200, .inl w3.1)), (q9, .inr (4, [.ref q10, .int w4.2])), (q10, .inl (G.2.2.1, 200, .inl w4.1)), (q11, .inr (4, [.ref q12, .int v1.2])), (q12, .inl (G.2.2.1, 200, .inl v1.1)), (q13, .inr (0, [.ref q14])), (q14, .inr (4, [.ref q15, .int v4.2])), (q15, .inl (G.2.2.1, 20, .inl v4.1))]) X (zg_runV X (zc_X5_add G q1 q2 200 w0 b12 fu b13 hb13) gX4_printSegment_X5_add rfl zh_X5_add ⟨rfl, rfl⟩ ⟨Nat.le_of_ble_eq_true rfl, Nat.le_of_ble_eq_true rfl⟩ rfl rfl rfl (Nat.le_of_ble_eq_true rfl) ⟨Nat.le_of_ble_eq_true rfl, Nat.le_of_ble_eq_true rfl⟩ [1, 2] (by decide) rfl rfl dX4_printSegment_108) rfl rfl ?_
        obtain ⟨x14, ex14, hf⟩ := pl_l hf
        refine zg_iinc (v := x14) (L' := [(6, .int x14), (0, .ref q0), (1, .ref q11), (3, .int y3)]) X dX4_printSegment_111 (j := 3) rfl (by rw [ex14]; rfl) (by decide) rfl ?_
        refine zg_goto (tgt := 85) X dX4_printSegment_114 (by decide) ?_
        refine zg_loc [1, 2, 3, 0] rfl ?_
        exact ih85 y3 x14 b13 w1 w2 w3 w4 w5 hf
  have hb79 : ∀ (y2 : Int32) (y3 : Int32) (z1 : Int32) (w0 : zRow) (w1 : zRow) (w2 : zRow) (w3 : zRow) (w4 : zRow) (w5 : Int32), zf_X4_printSegment_b79 fu v0 v1 v4 y2 y3 z1 w0 w1 w2 w3 w4 w5 = some res → zgGd G Z ({ frames := 5, cells := 0, slots := 0, locals := 107 } : Room) 0 0 7 [(q0, .inr (3, [.ref q1, .ref q3, .ref q5, .ref q7, .ref q9, .int w5, .int v0.2.2.2.2.2.2.1, .int v0.2.2.2.2.2.2.2])), (q1, .inr (4, [.ref q2, .int w0.2])), (q2, .inl (G.2.2.1, 200, .inl w0.1)), (q3, .inr (4, [.ref q4, .int w1.2])), (q4, .inl (G.2.2.1, 200, .inl w1.1)), (q5, .inr (4, [.ref q6, .int w2.2])), (q6, .inl (G.2.2.1, 200, .inl w2.1)), (q7, .inr (4, [.ref q8, .int w3.2])), (q8, .inl (G.2.2.1, 200, .inl w3.1)), (q9, .inr (4, [.ref q10, .int w4.2])), (q10, .inl (G.2.2.1, 200, .inl w4.1)), (q11, .inr (4, [.ref q12, .int v1.2])), (q12, .inl (G.2.2.1, 200, .inl v1.1)), (q13, .inr (0, [.ref q14])), (q14, .inr (4, [.ref q15, .int v4.2])), (q15, .inl (G.2.2.1, 20, .inl v4.1))] 79 [(0, .ref q0), (1, .ref q11), (2, .int y2), (3, .int y3)] [.int z1, .ref q9] := by
    intro y2 y3 z1 w0 w1 w2 w3 w4 w5 hf
    unfold zf_X4_printSegment_b79 at hf
    obtain ⟨b9, hb9, hf⟩ := pl_b hf
    refine zg_cU0 (ws2 := [(q0, .inr (3, [.ref q1, .ref q3, .ref q5, .ref q7, .ref q9, .int w5, .int v0.2.2.2.2.2.2.1, .int v0.2.2.2.2.2.2.2])), (q1, .inr (4, [.ref q2, .int w0.2])), (q2, .inl (G.2.2.1, 200, .inl w0.1)), (q3, .inr (4, [.ref q4, .int w1.2])), (q4, .inl (G.2.2.1, 200, .inl w1.1)), (q5, .inr (4, [.ref q6, .int w2.2])), (q6, .inl (G.2.2.1, 200, .inl w2.1)), (q7, .inr (4, [.ref q8, .int w3.2])), (q8, .inl (G.2.2.1, 200, .inl w3.1)), (q9, .inr (4, [.ref q10, .int b9.2])), (q10, .inl (G.2.2.1, 200, .inl b9.1)), (q11, .inr (4, [.ref q12, .int v1.2])), (q12, .inl (G.2.2.1, 200, .inl v1.1)), (q13, .inr (0, [.ref q14])), (q14, .inr (4, [.ref q15, .int v4.2])), (q15, .inl (G.2.2.1, 20, .inl v4.1))]) X (zg_runV X (zc_X5_add G q9 q10 200 w4 z1 fu b9 hb9) gX4_printSegment_X5_add rfl zh_X5_add ⟨rfl, rfl⟩ ⟨Nat.le_of_ble_eq_true rfl, Nat.le_of_ble_eq_true rfl⟩ rfl rfl rfl (Nat.le_of_ble_eq_true rfl) ⟨Nat.le_of_ble_eq_true rfl, Nat.le_of_ble_eq_true rfl⟩ [9, 10] (by decide) rfl rfl dX4_printSegment_79) rfl rfl ?_
    refine zg_iload_n X dX4_printSegment_82 rfl 2 rfl ?_
    refine zg_istore (L' := [(6, .int y2), (0, .ref q0), (1, .ref q11), (2, .int y2), (3, .int y3)]) X dX4_printSegment_83 (by decide) rfl ?_
    refine zg_loc [1, 2, 4, 0] rfl ?_
    exact hL85 fu y3 y2 w0 w1 w2 w3 b9 w5 hf
  unfold zf_X4_printSegment at hf
  refine zg_iload_n X dX4_printSegment_0 rfl 2 rfl ?_
  refine zg_iload_n X dX4_printSegment_1 rfl 3 rfl ?_
  refine zg_icmp_lt (tgt := 6) X dX4_printSegment_2 (by decide) (fun c1 => ?_) (fun c1 => ?_)
  · have hf := pl_t c1 hf
    refine zg_aload X dX4_printSegment_6 4 rfl ?_
    refine zg_aload_n X dX4_printSegment_8 rfl 1 rfl ?_
    refine zg_iload_n X dX4_printSegment_9 rfl 2 rfl ?_
    refine zg_iload_n X dX4_printSegment_10 rfl 3 rfl ?_
    refine zg_aload_n X dX4_printSegment_11 rfl 0 rfl ?_
    refine zg_get (C := RX4) (T := TX4) (N := 8) X 0 5 hiX4 rfl rfl (by decide) hw0 rfl dX4_printSegment_12 ?_
    obtain ⟨b2, hb2, hf⟩ := pl_b hf
    refine zg_cP1 X (zg_runV X (zc_X1_kindOf G q13 q14 q15 q11 q12 200 v4 v1 a2 a3 v0.2.2.2.2.2.1 fu b2 hb2) gX4_printSegment_X1_kindOf rfl zh_X1_kindOf ⟨rfl, rfl⟩ ⟨Nat.le_of_ble_eq_true rfl, Nat.le_of_ble_eq_true rfl⟩ rfl rfl rfl (Nat.le_of_ble_eq_true rfl) ⟨Nat.le_of_ble_eq_true rfl, Nat.le_of_ble_eq_true rfl⟩ [13, 14, 15, 11, 12] (by decide) rfl rfl dX4_printSegment_15) rfl ?_
    refine zg_istore (L' := [(5, .int b2), (0, .ref q0), (1, .ref q11), (2, .int a2), (3, .int a3), (4, .ref q13)]) X dX4_printSegment_18 (by decide) rfl ?_
    refine zg_aload_n X dX4_printSegment_20 rfl 1 rfl ?_
    refine zg_iload X dX4_printSegment_21 0 rfl ?_
    obtain ⟨b3, hb3, hf⟩ := pl_b hf
    refine zg_cP1 X (zg_runS X (zc_X1_shiftOfKind G b2 fu b3 hb3) gX4_printSegment_X1_shiftOfKind rfl zh_X1_shiftOfKind.2 ⟨rfl, rfl⟩ ⟨Nat.le_of_ble_eq_true rfl, Nat.le_of_ble_eq_true rfl⟩ rfl (Nat.le_of_ble_eq_true rfl) ⟨Nat.le_of_ble_eq_true rfl, Nat.le_of_ble_eq_true rfl⟩ [] (by decide) rfl rfl dX4_printSegment_23) rfl ?_
    refine zg_put (C := RX4) (T := TX4) (N := 8) (ty := .int) (ws' := [(q0, .inr (3, [.ref q1, .ref q3, .ref q5, .ref q7, .ref q9, .int b3, .int v0.2.2.2.2.2.2.1, .int v0.2.2.2.2.2.2.2])), (q1, .inr (4, [.ref q2, .int v0.1.2])), (q2, .inl (G.2.2.1, 200, .inl v0.1.1)), (q3, .inr (4, [.ref q4, .int v0.2.1.2])), (q4, .inl (G.2.2.1, 200, .inl v0.2.1.1)), (q5, .inr (4, [.ref q6, .int v0.2.2.1.2])), (q6, .inl (G.2.2.1, 200, .inl v0.2.2.1.1)), (q7, .inr (4, [.ref q8, .int v0.2.2.2.1.2])), (q8, .inl (G.2.2.1, 200, .inl v0.2.2.2.1.1)), (q9, .inr (4, [.ref q10, .int v0.2.2.2.2.1.2])), (q10, .inl (G.2.2.1, 200, .inl v0.2.2.2.2.1.1)), (q11, .inr (4, [.ref q12, .int v1.2])), (q12, .inl (G.2.2.1, 200, .inl v1.1)), (q13, .inr (0, [.ref q14])), (q14, .inr (4, [.ref q15, .int v4.2])), (q15, .inl (G.2.2.1, 20, .inl v4.1))]) X 0 5 hiX4 tyX4 tyX4_ok nmX4 rfl rfl (by decide) hw0 rfl (by decide +kernel) rfl rfl (Nat.le_of_ble_eq_true rfl) rfl dX4_printSegment_26 ?_
    refine zg_aload_n X dX4_printSegment_29 rfl 1 rfl ?_
    refine zg_get (C := RX4) (T := TX4) (N := 8) X 0 3 hiX4 rfl rfl (by decide) hw1 rfl dX4_printSegment_30 ?_
    refine zg_iload X dX4_printSegment_33 0 rfl ?_
    obtain ⟨b4, hb4, hf⟩ := pl_b hf
    refine zg_cU0 (ws2 := [(q0, .inr (3, [.ref q1, .ref q3, .ref q5, .ref q7, .ref q9, .int b3, .int v0.2.2.2.2.2.2.1, .int v0.2.2.2.2.2.2.2])), (q1, .inr (4, [.ref q2, .int v0.1.2])), (q2, .inl (G.2.2.1, 200, .inl v0.1.1)), (q3, .inr (4, [.ref q4, .int v0.2.1.2])), (q4, .inl (G.2.2.1, 200, .inl v0.2.1.1)), (q5, .inr (4, [.ref q6, .int v0.2.2.1.2])), (q6, .inl (G.2.2.1, 200, .inl v0.2.2.1.1)), (q7, .inr (4, [.ref q8, .int b4.2])), (q8, .inl (G.2.2.1, 200, .inl b4.1)), (q9, .inr (4, [.ref q10, .int v0.2.2.2.2.1.2])), (q10, .inl (G.2.2.1, 200, .inl v0.2.2.2.2.1.1)), (q11, .inr (4, [.ref q12, .int v1.2])), (q12, .inl (G.2.2.1, 200, .inl v1.1)), (q13, .inr (0, [.ref q14])), (q14, .inr (4, [.ref q15, .int v4.2])), (q15, .inl (G.2.2.1, 20, .inl v4.1))]) X (zg_runV X (zc_X5_add G q7 q8 200 v0.2.2.2.1 b2 fu b4 hb4) gX4_printSegment_X5_add rfl zh_X5_add ⟨rfl, rfl⟩ ⟨Nat.le_of_ble_eq_true rfl, Nat.le_of_ble_eq_true rfl⟩ rfl rfl rfl (Nat.le_of_ble_eq_true rfl) ⟨Nat.le_of_ble_eq_true rfl, Nat.le_of_ble_eq_true rfl⟩ [7, 8] (by decide) rfl rfl dX4_printSegment_35) rfl rfl ?_
    refine zg_aload_n X dX4_printSegment_38 rfl 1 rfl ?_
    refine zg_get (C := RX4) (T := TX4) (N := 8) X 0 1 hiX4 rfl rfl (by decide) hw2 rfl dX4_printSegment_39 ?_
    refine zg_iload_n X dX4_printSegment_42 rfl 3 rfl ?_
    obtain ⟨b5, hb5, hf⟩ := pl_b hf
    refine zg_cU0 (ws2 := [(q0, .inr (3, [.ref q1, .ref q3, .ref q5, .ref q7, .ref q9, .int b3, .int v0.2.2.2.2.2.2.1, .int v0.2.2.2.2.2.2.2])), (q1, .inr (4, [.ref q2, .int v0.1.2])), (q2, .inl (G.2.2.1, 200, .inl v0.1.1)), (q3, .inr (4, [.ref q4, .int b5.2])), (q4, .inl (G.2.2.1, 200, .inl b5.1)), (q5, .inr (4, [.ref q6, .int v0.2.2.1.2])), (q6, .inl (G.2.2.1, 200, .inl v0.2.2.1.1)), (q7, .inr (4, [.ref q8, .int b4.2])), (q8, .inl (G.2.2.1, 200, .inl b4.1)), (q9, .inr (4, [.ref q10, .int v0.2.2.2.2.1.2])), (q10, .inl (G.2.2.1, 200, .inl v0.2.2.2.2.1.1)), (q11, .inr (4, [.ref q12, .int v1.2])), (q12, .inl (G.2.2.1, 200, .inl v1.1)), (q13, .inr (0, [.ref q14])), (q14, .inr (4, [.ref q15, .int v4.2])), (q15, .inl (G.2.2.1, 20, .inl v4.1))]) X (zg_runV X (zc_X5_add G q3 q4 200 v0.2.1 a2 fu b5 hb5) gX4_printSegment_X5_add rfl zh_X5_add ⟨rfl, rfl⟩ ⟨Nat.le_of_ble_eq_true rfl, Nat.le_of_ble_eq_true rfl⟩ rfl rfl rfl (Nat.le_of_ble_eq_true rfl) ⟨Nat.le_of_ble_eq_true rfl, Nat.le_of_ble_eq_true rfl⟩ [3, 4] (by decide) rfl rfl dX4_printSegment_43) rfl rfl ?_
    refine zg_aload_n X dX4_printSegment_46 rfl 1 rfl ?_
    refine zg_get (C := RX4) (T := TX4) (N := 8) X 0 2 hiX4 rfl rfl (by decide) hw3 rfl dX4_printSegment_47 ?_
    refine zg_iload_n X dX4_printSegment_50 rfl 4 rfl ?_
    refine zg_pc 51 rfl ?_
    refine zg_iload_n X dX4_printSegment_51 rfl 3 rfl ?_
    refine zg_isub X dX4_printSegment_52 ?_
    obtain ⟨b6, hb6, hf⟩ := pl_b hf
    refine zg_cU0 (ws2 := [(q0, .inr (3, [.ref q1, .ref q3, .ref q5, .ref q7, .ref q9, .int b3, .int v0.2.2.2.2.2.2.1, .int v0.2.2.2.2.2.2.2])), (q1, .inr (4, [.ref q2, .int v0.1.2])), (q2, .inl (G.2.2.1, 200, .inl v0.1.1)), (q3, .inr (4, [.ref q4, .int b5.2])), (q4, .inl (G.2.2.1, 200, .inl b5.1)), (q5, .inr (4, [.ref q6, .int b6.2])), (q6, .inl (G.2.2.1, 200, .inl b6.1)), (q7, .inr (4, [.ref q8, .int b4.2])), (q8, .inl (G.2.2.1, 200, .inl b4.1)), (q9, .inr (4, [.ref q10, .int v0.2.2.2.2.1.2])), (q10, .inl (G.2.2.1, 200, .inl v0.2.2.2.2.1.1)), (q11, .inr (4, [.ref q12, .int v1.2])), (q12, .inl (G.2.2.1, 200, .inl v1.1)), (q13, .inr (0, [.ref q14])), (q14, .inr (4, [.ref q15, .int v4.2])), (q15, .inl (G.2.2.1, 20, .inl v4.1))]) X (zg_runV X (zc_X5_add G q5 q6 200 v0.2.2.1 (a3 - a2) fu b6 hb6) gX4_printSegment_X5_add rfl zh_X5_add ⟨rfl, rfl⟩ ⟨Nat.le_of_ble_eq_true rfl, Nat.le_of_ble_eq_true rfl⟩ rfl rfl rfl (Nat.le_of_ble_eq_true rfl) ⟨Nat.le_of_ble_eq_true rfl, Nat.le_of_ble_eq_true rfl⟩ [5, 6] (by decide) rfl rfl dX4_printSegment_53) rfl rfl ?_
    refine zg_aload_n X dX4_printSegment_56 rfl 1 rfl ?_
    refine zg_get (C := RX4) (T := TX4) (N := 8) X 0 4 hiX4 rfl rfl (by decide) hw4 rfl dX4_printSegment_57 ?_
    refine zg_aload_n X dX4_printSegment_60 rfl 1 rfl ?_
    refine zg_get (C := RX4) (T := TX4) (N := 8) X 0 5 hiX4 rfl rfl (by decide) hw0 rfl dX4_printSegment_61 ?_
    refine zg_if_ne (tgt := 78) X dX4_printSegment_64 (by decide) (fun c7 => ?_) (fun c7 => ?_)
    · have hf := pl_f c7 hf
      refine zg_iconst (v := (-1)) X dX4_printSegment_78 (by decide) ?_
      refine zg_loc [1, 2, 3, 4] rfl ?_
      exact hb79 a2 a3 (-1) v0.1 b5 b6 b4 v0.2.2.2.2.1 b3 hf
    · have hf := pl_t c7 hf
      refine zg_aload X dX4_printSegment_67 5 rfl ?_
      refine zg_aload_n X dX4_printSegment_69 rfl 2 rfl ?_
      refine zg_iload_n X dX4_printSegment_70 rfl 3 rfl ?_
      refine zg_iload_n X dX4_printSegment_71 rfl 4 rfl ?_
      obtain ⟨b8, hb8, hf⟩ := pl_b hf
      refine zg_cP1 X (zg_runV X (zc_X1_findSegment G q13 q14 q15 q11 q12 200 v4 v1 a2 a3 fu b8 hb8) gX4_printSegment_X1_findSegment rfl zh_X1_findSegment ⟨rfl, rfl⟩ ⟨Nat.le_of_ble_eq_true rfl, Nat.le_of_ble_eq_true rfl⟩ rfl rfl rfl (Nat.le_of_ble_eq_true rfl) ⟨Nat.le_of_ble_eq_true rfl, Nat.le_of_ble_eq_true rfl⟩ [13, 14, 15, 11, 12] (by decide) rfl rfl dX4_printSegment_72) rfl ?_
      refine zg_goto (tgt := 79) X dX4_printSegment_75 (by decide) ?_
      refine zg_loc [1, 2, 3, 4] rfl ?_
      exact hb79 a2 a3 b8 v0.1 b5 b6 b4 v0.2.2.2.2.1 b3 hf
  · have hf := pl_f c1 hf
    have hf := Option.some.inj hf
    subst hf
    exact zg_vret X hF () rfl rfl (Nat.le_of_ble_eq_true rfl) (Nat.le_of_ble_eq_true rfl) dX4_printSegment_5
theorem zh_X4_decode : yX4_decode.cls = RX4 ∧ yX4_decode.cls ≠ "java/lang/invoke/MethodHandle" ∧ yX4_decode.cls ≠ "java/lang/invoke/VarHandle" ∧ (parseMethodDescriptor yX4_decode.desc).map (fun d => d.parameters.length) = some 2 := by decide +kernel
set_option maxHeartbeats 8000000 in
set_option maxRecDepth 100000 in
theorem zc_X4_decode (G : zgG) (q0 q1 q2 q3 q4 q5 q6 q7 q8 q9 q10 q11 q12 q13 q14 q15 q16 q17 q18 q19 q20 q21 q22 q23 q24 : Nat) (v0 : zPrinter) (v1 : zLine) (v2 : zRow) (fu : Nat) (res : zPrinter) (hf : zf_X4_decode fu v0 v1 v2 = some res) : zgCt G yX4_decode wsX4_decode ({ frames := 6, cells := 0, slots := 0, locals := 133 } : Room) [.ref q0, .ref q11, .ref q22] [(q0, .inr (3, [.ref q1, .ref q3, .ref q5, .ref q7, .ref q9, .int v0.2.2.2.2.2.1, .int v0.2.2.2.2.2.2.1, .int v0.2.2.2.2.2.2.2])), (q1, .inr (4, [.ref q2, .int v0.1.2])), (q2, .inl (G.2.2.1, 200, .inl v0.1.1)), (q3, .inr (4, [.ref q4, .int v0.2.1.2])), (q4, .inl (G.2.2.1, 200, .inl v0.2.1.1)), (q5, .inr (4, [.ref q6, .int v0.2.2.1.2])), (q6, .inl (G.2.2.1, 200, .inl v0.2.2.1.1)), (q7, .inr (4, [.ref q8, .int v0.2.2.2.1.2])), (q8, .inl (G.2.2.1, 200, .inl v0.2.2.2.1.1)), (q9, .inr (4, [.ref q10, .int v0.2.2.2.2.1.2])), (q10, .inl (G.2.2.1, 200, .inl v0.2.2.2.2.1.1)), (q11, .inr (2, [.ref q12, .ref q14, .ref q16, .ref q18, .ref q20, .int v1.2.2.2.2.2.1, .int v1.2.2.2.2.2.2])), (q12, .inr (4, [.ref q13, .int v1.1.2])), (q13, .inl (G.2.2.1, 200, .inl v1.1.1)), (q14, .inr (4, [.ref q15, .int v1.2.1.2])), (q15, .inl (G.2.2.1, 200, .inl v1.2.1.1)), (q16, .inr (4, [.ref q17, .int v1.2.2.1.2])), (q17, .inl (G.2.2.1, 200, .inl v1.2.2.1.1)), (q18, .inr (4, [.ref q19, .int v1.2.2.2.1.2])), (q19, .inl (G.2.2.1, 200, .inl v1.2.2.2.1.1)), (q20, .inr (4, [.ref q21, .int v1.2.2.2.2.1.2])), (q21, .inl (G.2.2.1, 120, .inl v1.2.2.2.2.1.1)), (q22, .inr (0, [.ref q23])), (q23, .inr (4, [.ref q24, .int v2.2])), (q24, .inl (G.2.2.1, 20, .inl v2.1))] (fun _ : Unit => none) (fun _ => [(q0, .inr (3, [.ref q1, .ref q3, .ref q5, .ref q7, .ref q9, .int res.2.2.2.2.2.1, .int res.2.2.2.2.2.2.1, .int res.2.2.2.2.2.2.2])), (q1, .inr (4, [.ref q2, .int res.1.2])), (q2, .inl (G.2.2.1, 200, .inl res.1.1)), (q3, .inr (4, [.ref q4, .int res.2.1.2])), (q4, .inl (G.2.2.1, 200, .inl res.2.1.1)), (q5, .inr (4, [.ref q6, .int res.2.2.1.2])), (q6, .inl (G.2.2.1, 200, .inl res.2.2.1.1)), (q7, .inr (4, [.ref q8, .int res.2.2.2.1.2])), (q8, .inl (G.2.2.1, 200, .inl res.2.2.2.1.1)), (q9, .inr (4, [.ref q10, .int res.2.2.2.2.1.2])), (q10, .inl (G.2.2.1, 200, .inl res.2.2.2.2.1.1)), (q11, .inr (2, [.ref q12, .ref q14, .ref q16, .ref q18, .ref q20, .int v1.2.2.2.2.2.1, .int v1.2.2.2.2.2.2])), (q12, .inr (4, [.ref q13, .int v1.1.2])), (q13, .inl (G.2.2.1, 200, .inl v1.1.1)), (q14, .inr (4, [.ref q15, .int v1.2.1.2])), (q15, .inl (G.2.2.1, 200, .inl v1.2.1.1)), (q16, .inr (4, [.ref q17, .int v1.2.2.1.2])), (q17, .inl (G.2.2.1, 200, .inl v1.2.2.1.1)), (q18, .inr (4, [.ref q19, .int v1.2.2.2.1.2])), (q19, .inl (G.2.2.1, 200, .inl v1.2.2.2.1.1)), (q20, .inr (4, [.ref q21, .int v1.2.2.2.2.1.2])), (q21, .inl (G.2.2.1, 120, .inl v1.2.2.2.2.1.1)), (q22, .inr (0, [.ref q23])), (q23, .inr (4, [.ref q24, .int v2.2])), (q24, .inl (G.2.2.1, 20, .inl v2.1))]) 0 0 := by
  have hiX3 : ∀ w ∈ u_ws RX3 TX3 7, w ∈ wsX4_decode := by decide +kernel
  refine zg_of (own := RX4) (cc := cX4_decode) (nL := 7) (ret := none) (by decide +kernel) rfl rfl (Nat.le_of_ble_eq_true rfl) (fun Z X hF => ?_)
  show zgGd G Z _ 0 0 7 _ 0 [(0, .ref q0), (1, .ref q11), (2, .ref q22)] []
  have hL15 : ∀ (n : Nat) (y4 : Int32) (y5 : Int32) (w0 : zRow) (w1 : zRow) (w2 : zRow) (w3 : zRow) (w4 : zRow) (w5 : Int32) (w6 : Int32) (w7 : Int32), zf_X4_decode_L15 fu v0 v1 v2 n y4 y5 w0 w1 w2 w3 w4 w5 w6 w7 = some res → zgGd G Z ({ frames := 6, cells := 0, slots := 0, locals := 133 } : Room) 0 0 7 [(q0, .inr (3, [.ref q1, .ref q3, .ref q5, .ref q7, .ref q9, .int w5, .int w6, .int w7])), (q1, .inr (4, [.ref q2, .int w0.2])), (q2, .inl (G.2.2.1, 200, .inl w0.1)), (q3, .inr (4, [.ref q4, .int w1.2])), (q4, .inl (G.2.2.1, 200, .inl w1.1)), (q5, .inr (4, [.ref q6, .int w2.2])), (q6, .inl (G.2.2.1, 200, .inl w2.1)), (q7, .inr (4, [.ref q8, .int w3.2])), (q8, .inl (G.2.2.1, 200, .inl w3.1)), (q9, .inr (4, [.ref q10, .int w4.2])), (q10, .inl (G.2.2.1, 200, .inl w4.1)), (q11, .inr (2, [.ref q12, .ref q14, .ref q16, .ref q18, .ref q20, .int v1.2.2.2.2.2.1, .int v1.2.2.2.2.2.2])), (q12, .inr (4, [.ref q13, .int v1.1.2])), (q13, .inl (G.2.2.1, 200, .inl v1.1.1)), (q14, .inr (4, [.ref q15, .int v1.2.1.2])), (q15, .inl (G.2.2.1, 200, .inl v1.2.1.1)), (q16, .inr (4, [.ref q17, .int v1.2.2.1.2])), (q17, .inl (G.2.2.1, 200, .inl v1.2.2.1.1)), (q18, .inr (4, [.ref q19, .int v1.2.2.2.1.2])), (q19, .inl (G.2.2.1, 200, .inl v1.2.2.2.1.1)), (q20, .inr (4, [.ref q21, .int v1.2.2.2.2.1.2])), (q21, .inl (G.2.2.1, 120, .inl v1.2.2.2.2.1.1)), (q22, .inr (0, [.ref q23])), (q23, .inr (4, [.ref q24, .int v2.2])), (q24, .inl (G.2.2.1, 20, .inl v2.1))] 15 [(0, .ref q0), (1, .ref q11), (2, .ref q22), (3, .ref q16), (4, .int y4), (5, .int y5)] [] := by
    intro n
    induction n with
    | zero =>
      intro y4 y5 w0 w1 w2 w3 w4 w5 w6 w7 hf
      rw [zf_X4_decode_L15] at hf
      cases hf
    | succ n15 ih15 =>
      have hb66 : ∀ (y4 : Int32) (y5 : Int32) (w0 : zRow) (w1 : zRow) (w2 : zRow) (w3 : zRow) (w4 : zRow) (w5 : Int32) (w6 : Int32) (w7 : Int32), zf_X4_decode_b66 fu v0 v1 v2 (zf_X4_decode_L15 fu v0 v1 v2 n15) y4 y5 w0 w1 w2 w3 w4 w5 w6 w7 = some res → zgGd G Z ({ frames := 6, cells := 0, slots := 0, locals := 133 } : Room) 0 0 7 [(q0, .inr (3, [.ref q1, .ref q3, .ref q5, .ref q7, .ref q9, .int w5, .int w6, .int w7])), (q1, .inr (4, [.ref q2, .int w0.2])), (q2, .inl (G.2.2.1, 200, .inl w0.1)), (q3, .inr (4, [.ref q4, .int w1.2])), (q4, .inl (G.2.2.1, 200, .inl w1.1)), (q5, .inr (4, [.ref q6, .int w2.2])), (q6, .inl (G.2.2.1, 200, .inl w2.1)), (q7, .inr (4, [.ref q8, .int w3.2])), (q8, .inl (G.2.2.1, 200, .inl w3.1)), (q9, .inr (4, [.ref q10, .int w4.2])), (q10, .inl (G.2.2.1, 200, .inl w4.1)), (q11, .inr (2, [.ref q12, .ref q14, .ref q16, .ref q18, .ref q20, .int v1.2.2.2.2.2.1, .int v1.2.2.2.2.2.2])), (q12, .inr (4, [.ref q13, .int v1.1.2])), (q13, .inl (G.2.2.1, 200, .inl v1.1.1)), (q14, .inr (4, [.ref q15, .int v1.2.1.2])), (q15, .inl (G.2.2.1, 200, .inl v1.2.1.1)), (q16, .inr (4, [.ref q17, .int v1.2.2.1.2])), (q17, .inl (G.2.2.1, 200, .inl v1.2.2.1.1)), (q18, .inr (4, [.ref q19, .int v1.2.2.2.1.2])), (q19, .inl (G.2.2.1, 200, .inl v1.2.2.2.1.1)), (q20, .inr (4, [.ref q21, .int v1.2.2.2.2.1.2])), (q21, .inl (G.2.2.1, 120, .inl v1.2.2.2.2.1.1)), (q22, .inr (0, [.ref q23])), (q23, .inr (4, [.ref q24, .int v2.2])), (q24, .inl (G.2.2.1, 20, .inl v2.1))] 66 [(0, .ref q0), (1, .ref q11), (2, .ref q22), (3, .ref q16), (4, .int y4), (5, .int y5)] [] := by
        intro y4 y5 w0 w1 w2 w3 w4 w5 w6 w7 hf
        unfold zf_X4_decode_b66 at hf
        obtain ⟨x12, ex12, hf⟩ := pl_l hf
        refine zg_iinc (v := x12) (L' := [(5, .int x12), (0, .ref q0), (1, .ref q11), (2, .ref q22), (3, .ref q16), (4, .int y4)]) X dX4_decode_66 (j := 5) rfl (by rw [ex12]; rfl) (by decide) rfl ?_
        refine zg_goto (tgt := 15) X dX4_decode_69 (by decide) ?_
        refine zg_loc [1, 2, 3, 4, 5, 0] rfl ?_
        exact ih15 y4 x12 w0 w1 w2 w3 w4 w5 w6 w7 hf
      intro y4 y5 w0 w1 w2 w3 w4 w5 w6 w7 hf
      rw [zf_X4_decode_L15] at hf
      refine zg_iload X dX4_decode_15 5 rfl ?_
      refine zg_aload_n X dX4_decode_17 rfl 3 rfl ?_
      obtain ⟨b2, hb2, hf⟩ := pl_b hf
      refine zg_cP1 X (zg_runV X (zc_X5_size G q16 q17 200 v1.2.2.1 fu b2 hb2) gX4_decode_X5_size rfl zh_X5_size ⟨rfl, rfl⟩ ⟨Nat.le_of_ble_eq_true rfl, Nat.le_of_ble_eq_true rfl⟩ rfl rfl rfl (Nat.le_of_ble_eq_true rfl) ⟨Nat.le_of_ble_eq_true rfl, Nat.le_of_ble_eq_true rfl⟩ [16, 17] (by decide) rfl rfl dX4_decode_18) rfl ?_
      refine zg_icmp_ge (tgt := 72) X dX4_decode_21 (by decide) (fun c3 => ?_) (fun c3 => ?_)
      · have hf := pl_t c3 hf
        refine zg_aload_n X dX4_decode_72 rfl 0 rfl ?_
        refine zg_aload_n X dX4_decode_73 rfl 3 rfl ?_
        refine zg_iload X dX4_decode_74 4 rfl ?_
        refine zg_aload_n X dX4_decode_76 rfl 3 rfl ?_
        obtain ⟨b4, hb4, hf⟩ := pl_b hf
        refine zg_cP1 X (zg_runV X (zc_X5_size G q16 q17 200 v1.2.2.1 fu b4 hb4) gX4_decode_X5_size rfl zh_X5_size ⟨rfl, rfl⟩ ⟨Nat.le_of_ble_eq_true rfl, Nat.le_of_ble_eq_true rfl⟩ rfl rfl rfl (Nat.le_of_ble_eq_true rfl) ⟨Nat.le_of_ble_eq_true rfl, Nat.le_of_ble_eq_true rfl⟩ [16, 17] (by decide) rfl rfl dX4_decode_77) rfl ?_
        refine zg_aload_n X dX4_decode_80 rfl 2 rfl ?_
        obtain ⟨b5, hb5, hf⟩ := pl_b hf
        refine zg_cU0 (ws2 := [(q0, .inr (3, [.ref q1, .ref q3, .ref q5, .ref q7, .ref q9, .int b5.2.2.2.2.2.1, .int b5.2.2.2.2.2.2.1, .int b5.2.2.2.2.2.2.2])), (q1, .inr (4, [.ref q2, .int b5.1.2])), (q2, .inl (G.2.2.1, 200, .inl b5.1.1)), (q3, .inr (4, [.ref q4, .int b5.2.1.2])), (q4, .inl (G.2.2.1, 200, .inl b5.2.1.1)), (q5, .inr (4, [.ref q6, .int b5.2.2.1.2])), (q6, .inl (G.2.2.1, 200, .inl b5.2.2.1.1)), (q7, .inr (4, [.ref q8, .int b5.2.2.2.1.2])), (q8, .inl (G.2.2.1, 200, .inl b5.2.2.2.1.1)), (q9, .inr (4, [.ref q10, .int b5.2.2.2.2.1.2])), (q10, .inl (G.2.2.1, 200, .inl b5.2.2.2.2.1.1)), (q11, .inr (2, [.ref q12, .ref q14, .ref q16, .ref q18, .ref q20, .int v1.2.2.2.2.2.1, .int v1.2.2.2.2.2.2])), (q12, .inr (4, [.ref q13, .int v1.1.2])), (q13, .inl (G.2.2.1, 200, .inl v1.1.1)), (q14, .inr (4, [.ref q15, .int v1.2.1.2])), (q15, .inl (G.2.2.1, 200, .inl v1.2.1.1)), (q16, .inr (4, [.ref q17, .int v1.2.2.1.2])), (q17, .inl (G.2.2.1, 200, .inl v1.2.2.1.1)), (q18, .inr (4, [.ref q19, .int v1.2.2.2.1.2])), (q19, .inl (G.2.2.1, 200, .inl v1.2.2.2.1.1)), (q20, .inr (4, [.ref q21, .int v1.2.2.2.2.1.2])), (q21, .inl (G.2.2.1, 120, .inl v1.2.2.2.2.1.1)), (q22, .inr (0, [.ref q23])), (q23, .inr (4, [.ref q24, .int v2.2])), (q24, .inl (G.2.2.1, 20, .inl v2.1))]) X (zg_runV X (zc_X4_printSegment G q0 q1 q2 q3 q4 q5 q6 q7 q8 q9 q10 q16 q17 q22 q23 q24 (w0, w1, w2, w3, w4, w5, w6, w7) v1.2.2.1 v2 y4 b4 fu b5 hb5) gX4_decode_X4_printSegment rfl zh_X4_printSegment ⟨rfl, rfl⟩ ⟨Nat.le_of_ble_eq_true rfl, Nat.le_of_ble_eq_true rfl⟩ rfl rfl rfl (Nat.le_of_ble_eq_true rfl) ⟨Nat.le_of_ble_eq_true rfl, Nat.le_of_ble_eq_true rfl⟩ [0, 1, 2, 3, 4, 5, 6, 7, 8, 9, 10, 16, 17, 22, 23, 24] (by decide) rfl rfl dX4_decode_81) rfl rfl ?_
        have hf := Option.some.inj hf
        subst hf
        exact zg_vret X hF () rfl rfl (Nat.le_of_ble_eq_true rfl) (Nat.le_of_ble_eq_true rfl) dX4_decode_84
      · have hf := pl_f c3 hf
        refine zg_aload_n X dX4_decode_24 rfl 3 rfl ?_
        refine zg_iload X dX4_decode_25 5 rfl ?_
        obtain ⟨b6, hb6, hf⟩ := pl_b hf
        refine zg_cP1 X (zg_runV X (zc_X5_at G q16 q17 200 v1.2.2.1 y5 fu b6 hb6) gX4_decode_X5_at rfl zh_X5_at ⟨rfl, rfl⟩ ⟨Nat.le_of_ble_eq_true rfl, Nat.le_of_ble_eq_true rfl⟩ rfl rfl rfl (Nat.le_of_ble_eq_true rfl) ⟨Nat.le_of_ble_eq_true rfl, Nat.le_of_ble_eq_true rfl⟩ [16, 17] (by decide) rfl rfl dX4_decode_27) rfl ?_
        refine zg_istore (L' := [(6, .int b6), (0, .ref q0), (1, .ref q11), (2, .ref q22), (3, .ref q16), (4, .int y4), (5, .int y5)]) X dX4_decode_30 (by decide) rfl ?_
        refine zg_iload X dX4_decode_32 0 rfl ?_
        obtain ⟨b7, hb7, hf⟩ := pl_b hf
        refine zg_cP1 X (zg_runS X (zc_X0_isSign G b6 fu b7 hb7) gX4_decode_X0_isSign rfl zh_X0_isSign.2 ⟨rfl, rfl⟩ ⟨Nat.le_of_ble_eq_true rfl, Nat.le_of_ble_eq_true rfl⟩ rfl (Nat.le_of_ble_eq_true rfl) ⟨Nat.le_of_ble_eq_true rfl, Nat.le_of_ble_eq_true rfl⟩ [] (by decide) rfl rfl dX4_decode_34) rfl ?_
        refine zg_if_ne (tgt := 66) X dX4_decode_37 (by decide) (fun c8 => ?_) (fun c8 => ?_)
        · have hf := pl_f c8 hf
          refine zg_loc [1, 2, 3, 4, 5, 6] rfl ?_
          exact hb66 y4 y5 w0 w1 w2 w3 w4 w5 w6 w7 hf
        · have hf := pl_t c8 hf
          refine zg_aload_n X dX4_decode_40 rfl 1 rfl ?_
          refine zg_aload_n X dX4_decode_41 rfl 4 rfl ?_
          refine zg_iload X dX4_decode_42 5 rfl ?_
          refine zg_iload X dX4_decode_44 6 rfl ?_
          refine zg_aload_n X dX4_decode_46 rfl 3 rfl ?_
          obtain ⟨b9, hb9, hf⟩ := pl_b hf
          refine zg_cU0 (ws2 := [(q0, .inr (3, [.ref q1, .ref q3, .ref q5, .ref q7, .ref q9, .int b9.2.2.2.2.2.1, .int b9.2.2.2.2.2.2.1, .int b9.2.2.2.2.2.2.2])), (q1, .inr (4, [.ref q2, .int b9.1.2])), (q2, .inl (G.2.2.1, 200, .inl b9.1.1)), (q3, .inr (4, [.ref q4, .int b9.2.1.2])), (q4, .inl (G.2.2.1, 200, .inl b9.2.1.1)), (q5, .inr (4, [.ref q6, .int b9.2.2.1.2])), (q6, .inl (G.2.2.1, 200, .inl b9.2.2.1.1)), (q7, .inr (4, [.ref q8, .int b9.2.2.2.1.2])), (q8, .inl (G.2.2.1, 200, .inl b9.2.2.2.1.1)), (q9, .inr (4, [.ref q10, .int b9.2.2.2.2.1.2])), (q10, .inl (G.2.2.1, 200, .inl b9.2.2.2.2.1.1)), (q11, .inr (2, [.ref q12, .ref q14, .ref q16, .ref q18, .ref q20, .int v1.2.2.2.2.2.1, .int v1.2.2.2.2.2.2])), (q12, .inr (4, [.ref q13, .int v1.1.2])), (q13, .inl (G.2.2.1, 200, .inl v1.1.1)), (q14, .inr (4, [.ref q15, .int v1.2.1.2])), (q15, .inl (G.2.2.1, 200, .inl v1.2.1.1)), (q16, .inr (4, [.ref q17, .int v1.2.2.1.2])), (q17, .inl (G.2.2.1, 200, .inl v1.2.2.1.1)), (q18, .inr (4, [.ref q19, .int v1.2.2.2.1.2])), (q19, .inl (G.2.2.1, 200, .inl v1.2.2.2.1.1)), (q20, .inr (4, [.ref q21, .int v1.2.2.2.2.1.2])), (q21, .inl (G.2.2.1, 120, .inl v1.2.2.2.2.1.1)), (q22, .inr (0, [.ref q23])), (q23, .inr (4, [.ref q24, .int v2.2])), (q24, .inl (G.2.2.1, 20, .inl v2.1))]) X (zg_runV X (zc_X4_printSegment G q0 q1 q2 q3 q4 q5 q6 q7 q8 q9 q10 q16 q17 q22 q23 q24 (w0, w1, w2, w3, w4, w5, w6, w7) v1.2.2.1 v2 y4 y5 fu b9 hb9) gX4_decode_X4_printSegment rfl zh_X4_printSegment ⟨rfl, rfl⟩ ⟨Nat.le_of_ble_eq_true rfl, Nat.le_of_ble_eq_true rfl⟩ rfl rfl rfl (Nat.le_of_ble_eq_true rfl) ⟨Nat.le_of_ble_eq_true rfl, Nat.le_of_ble_eq_true rfl⟩ [0, 1, 2, 3, 4, 5, 6, 7, 8, 9, 10, 16, 17, 22, 23, 24] (by decide) rfl rfl dX4_decode_47) rfl rfl ?_
          refine zg_aload_n X dX4_decode_50 rfl 1 rfl ?_
          refine zg_iload X dX4_decode_51 0 rfl ?_
          refine zg_aload_n X dX4_decode_53 rfl 2 rfl ?_
          refine zg_getN (C := RX3) (T := TX3) (N := 7) (host := "TelexReceiver") X 11 6 hiX3 rfl rfl (by decide) (by decide +kernel) rfl dX4_decode_54 ?_
          obtain ⟨b10, hb10, hf⟩ := pl_b hf
          refine zg_cU0 (ws2 := [(q0, .inr (3, [.ref q1, .ref q3, .ref q5, .ref q7, .ref q9, .int b10.2.2.2.2.2.1, .int b10.2.2.2.2.2.2.1, .int b10.2.2.2.2.2.2.2])), (q1, .inr (4, [.ref q2, .int b10.1.2])), (q2, .inl (G.2.2.1, 200, .inl b10.1.1)), (q3, .inr (4, [.ref q4, .int b10.2.1.2])), (q4, .inl (G.2.2.1, 200, .inl b10.2.1.1)), (q5, .inr (4, [.ref q6, .int b10.2.2.1.2])), (q6, .inl (G.2.2.1, 200, .inl b10.2.2.1.1)), (q7, .inr (4, [.ref q8, .int b10.2.2.2.1.2])), (q8, .inl (G.2.2.1, 200, .inl b10.2.2.2.1.1)), (q9, .inr (4, [.ref q10, .int b10.2.2.2.2.1.2])), (q10, .inl (G.2.2.1, 200, .inl b10.2.2.2.2.1.1)), (q11, .inr (2, [.ref q12, .ref q14, .ref q16, .ref q18, .ref q20, .int v1.2.2.2.2.2.1, .int v1.2.2.2.2.2.2])), (q12, .inr (4, [.ref q13, .int v1.1.2])), (q13, .inl (G.2.2.1, 200, .inl v1.1.1)), (q14, .inr (4, [.ref q15, .int v1.2.1.2])), (q15, .inl (G.2.2.1, 200, .inl v1.2.1.1)), (q16, .inr (4, [.ref q17, .int v1.2.2.1.2])), (q17, .inl (G.2.2.1, 200, .inl v1.2.2.1.1)), (q18, .inr (4, [.ref q19, .int v1.2.2.2.1.2])), (q19, .inl (G.2.2.1, 200, .inl v1.2.2.2.1.1)), (q20, .inr (4, [.ref q21, .int v1.2.2.2.2.1.2])), (q21, .inl (G.2.2.1, 120, .inl v1.2.2.2.2.1.1)), (q22, .inr (0, [.ref q23])), (q23, .inr (4, [.ref q24, .int v2.2])), (q24, .inl (G.2.2.1, 20, .inl v2.1))]) X (zg_runV X (zc_X4_obey G q0 q1 q2 q3 q4 q5 q6 q7 q8 q9 q10 b9 b6 v1.2.2.2.2.2.2 fu b10 hb10) gX4_decode_X4_obey rfl zh_X4_obey ⟨rfl, rfl⟩ ⟨Nat.le_of_ble_eq_true rfl, Nat.le_of_ble_eq_true rfl⟩ rfl rfl rfl (Nat.le_of_ble_eq_true rfl) ⟨Nat.le_of_ble_eq_true rfl, Nat.le_of_ble_eq_true rfl⟩ [0, 1, 2, 3, 4, 5, 6, 7, 8, 9, 10] (by decide) rfl rfl dX4_decode_57) rfl rfl ?_
          refine zg_iload X dX4_decode_60 6 rfl ?_
          refine zg_iconst (v := 1) X dX4_decode_62 (by decide) ?_
          refine zg_iadd X dX4_decode_63 ?_
          obtain ⟨x11, ex11, hf⟩ := pl_l hf
          refine zg_topi ex11 ?_
          refine zg_istore (L' := [(4, .int x11), (6, .int b6), (0, .ref q0), (1, .ref q11), (2, .ref q22), (3, .ref q16), (5, .int y5)]) X dX4_decode_64 (by decide) rfl ?_
          refine zg_loc [2, 3, 4, 5, 0, 6] rfl ?_
          exact hb66 x11 y5 b10.1 b10.2.1 b10.2.2.1 b10.2.2.2.1 b10.2.2.2.2.1 b10.2.2.2.2.2.1 b10.2.2.2.2.2.2.1 b10.2.2.2.2.2.2.2 hf
  unfold zf_X4_decode at hf
  refine zg_aload_n X dX4_decode_0 rfl 0 rfl ?_
  obtain ⟨b1, hb1, hf⟩ := pl_b hf
  refine zg_cU0 (ws2 := [(q0, .inr (3, [.ref q1, .ref q3, .ref q5, .ref q7, .ref q9, .int b1.2.2.2.2.2.1, .int b1.2.2.2.2.2.2.1, .int b1.2.2.2.2.2.2.2])), (q1, .inr (4, [.ref q2, .int b1.1.2])), (q2, .inl (G.2.2.1, 200, .inl b1.1.1)), (q3, .inr (4, [.ref q4, .int b1.2.1.2])), (q4, .inl (G.2.2.1, 200, .inl b1.2.1.1)), (q5, .inr (4, [.ref q6, .int b1.2.2.1.2])), (q6, .inl (G.2.2.1, 200, .inl b1.2.2.1.1)), (q7, .inr (4, [.ref q8, .int b1.2.2.2.1.2])), (q8, .inl (G.2.2.1, 200, .inl b1.2.2.2.1.1)), (q9, .inr (4, [.ref q10, .int b1.2.2.2.2.1.2])), (q10, .inl (G.2.2.1, 200, .inl b1.2.2.2.2.1.1)), (q11, .inr (2, [.ref q12, .ref q14, .ref q16, .ref q18, .ref q20, .int v1.2.2.2.2.2.1, .int v1.2.2.2.2.2.2])), (q12, .inr (4, [.ref q13, .int v1.1.2])), (q13, .inl (G.2.2.1, 200, .inl v1.1.1)), (q14, .inr (4, [.ref q15, .int v1.2.1.2])), (q15, .inl (G.2.2.1, 200, .inl v1.2.1.1)), (q16, .inr (4, [.ref q17, .int v1.2.2.1.2])), (q17, .inl (G.2.2.1, 200, .inl v1.2.2.1.1)), (q18, .inr (4, [.ref q19, .int v1.2.2.2.1.2])), (q19, .inl (G.2.2.1, 200, .inl v1.2.2.2.1.1)), (q20, .inr (4, [.ref q21, .int v1.2.2.2.2.1.2])), (q21, .inl (G.2.2.1, 120, .inl v1.2.2.2.2.1.1)), (q22, .inr (0, [.ref q23])), (q23, .inr (4, [.ref q24, .int v2.2])), (q24, .inl (G.2.2.1, 20, .inl v2.1))]) X (zg_runV X (zc_X4_reset G q0 q1 q2 q3 q4 q5 q6 q7 q8 q9 q10 v0 fu b1 hb1) gX4_decode_X4_reset rfl zh_X4_reset ⟨rfl, rfl⟩ ⟨Nat.le_of_ble_eq_true rfl, Nat.le_of_ble_eq_true rfl⟩ rfl rfl rfl (Nat.le_of_ble_eq_true rfl) ⟨Nat.le_of_ble_eq_true rfl, Nat.le_of_ble_eq_true rfl⟩ [0, 1, 2, 3, 4, 5, 6, 7, 8, 9, 10] (by decide) rfl rfl dX4_decode_1) rfl rfl ?_
  refine zg_aload_n X dX4_decode_4 rfl 1 rfl ?_
  refine zg_getN (C := RX3) (T := TX3) (N := 7) (host := "TelexReceiver") X 11 2 hiX3 rfl rfl (by decide) (by decide +kernel) rfl dX4_decode_5 ?_
  refine zg_astore_n (L' := [(3, .ref q16), (0, .ref q0), (1, .ref q11), (2, .ref q22)]) X dX4_decode_8 rfl (by decide) rfl ?_
  refine zg_iconst (v := 0) X dX4_decode_9 (by decide) ?_
  refine zg_istore (L' := [(4, .int 0), (3, .ref q16), (0, .ref q0), (1, .ref q11), (2, .ref q22)]) X dX4_decode_10 (by decide) rfl ?_
  refine zg_iconst (v := 0) X dX4_decode_12 (by decide) ?_
  refine zg_istore (L' := [(5, .int 0), (4, .int 0), (3, .ref q16), (0, .ref q0), (1, .ref q11), (2, .ref q22)]) X dX4_decode_13 (by decide) rfl ?_
  refine zg_loc [3, 4, 5, 2, 1, 0] rfl ?_
  exact hL15 fu 0 0 b1.1 b1.2.1 b1.2.2.1 b1.2.2.2.1 b1.2.2.2.2.1 b1.2.2.2.2.2.1 b1.2.2.2.2.2.2.1 b1.2.2.2.2.2.2.2 hf
