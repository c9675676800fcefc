theorem zh_X8_setFault : yX8_setFault.cls = RX8 ∧ yX8_setFault.cls ≠ "java/lang/invoke/MethodHandle" ∧ yX8_setFault.cls ≠ "java/lang/invoke/VarHandle" ∧ (parseMethodDescriptor yX8_setFault.desc).map (fun d => d.parameters.length) = some 2 := by decide +kernel
set_option maxHeartbeats 8000000 in
set_option maxRecDepth 100000 in
theorem zc_X8_setFault (G : zgG) (q0 q1 q2 q3 q4 q5 q6 q7 q8 : Nat) (v0 : zModel) (a1 : Int32) (a2 : Int32) (fu : Nat) (res : (Int32 × zModel)) (hf : zf_X8_setFault fu v0 a1 a2 = some res) : zgCt G yX8_setFault wsX8_setFault ({ frames := 1, cells := 0, slots := 0, locals := 22 } : Room) [.ref q0, .int a1, .int a2] [(q0, .inr (7, [.ref q1, .ref q2, .int v0.2.2.1, .ref q3, .int v0.2.2.2.2.1, .int v0.2.2.2.2.2.1, .ref q4, .int v0.2.2.2.2.2.2.2.1, .ref q5, .ref q6, .ref q7, .int v0.2.2.2.2.2.2.2.2.2.2.2.1, .int v0.2.2.2.2.2.2.2.2.2.2.2.2.1, .int v0.2.2.2.2.2.2.2.2.2.2.2.2.2.1, .int v0.2.2.2.2.2.2.2.2.2.2.2.2.2.2.1, .ref q8, .int v0.2.2.2.2.2.2.2.2.2.2.2.2.2.2.2.2])), (q1, .inl (G.2.2.1, 946, .inl v0.1)), (q2, .inl (G.2.2.1, 5676, .inl v0.2.1)), (q3, .inl (G.2.2.1, 60, .inl v0.2.2.2.1)), (q4, .inl (G.2.2.1, 201, .inl v0.2.2.2.2.2.2.1)), (q5, .inl (G.2.2.1, 201, .inl v0.2.2.2.2.2.2.2.2.1)), (q6, .inl (G.2.2.1, 201, .inl v0.2.2.2.2.2.2.2.2.2.1)), (q7, .inl (G.2.2.1, 201, .inl v0.2.2.2.2.2.2.2.2.2.2.1)), (q8, .inl (G.2.2.1, 201, .inl v0.2.2.2.2.2.2.2.2.2.2.2.2.2.2.2.1))] (fun _ : Unit => some (.int res.1)) (fun _ => [(q0, .inr (7, [.ref q1, .ref q2, .int res.2.2.2.1, .ref q3, .int res.2.2.2.2.2.1, .int res.2.2.2.2.2.2.1, .ref q4, .int res.2.2.2.2.2.2.2.2.1, .ref q5, .ref q6, .ref q7, .int res.2.2.2.2.2.2.2.2.2.2.2.2.1, .int res.2.2.2.2.2.2.2.2.2.2.2.2.2.1, .int res.2.2.2.2.2.2.2.2.2.2.2.2.2.2.1, .int res.2.2.2.2.2.2.2.2.2.2.2.2.2.2.2.1, .ref q8, .int res.2.2.2.2.2.2.2.2.2.2.2.2.2.2.2.2.2])), (q1, .inl (G.2.2.1, 946, .inl res.2.1)), (q2, .inl (G.2.2.1, 5676, .inl res.2.2.1)), (q3, .inl (G.2.2.1, 60, .inl res.2.2.2.2.1)), (q4, .inl (G.2.2.1, 201, .inl res.2.2.2.2.2.2.2.1)), (q5, .inl (G.2.2.1, 201, .inl res.2.2.2.2.2.2.2.2.2.1)), (q6, .inl (G.2.2.1, 201, .inl res.2.2.2.2.2.2.2.2.2.2.1)), (q7, .inl (G.2.2.1, 201, .inl res.2.2.2.2.2.2.2.2.2.2.2.1)), (q8, .inl (G.2.2.1, 201, .inl res.2.2.2.2.2.2.2.2.2.2.2.2.2.2.2.2.1))]) 0 0 := by
  have hw0 : Cond.fieldLink RX8 7 "TelexReceiverModel" "s" "[I" ∈ wsX8_setFault := by decide +kernel
  have hiX8 : ∀ w ∈ u_ws RX8 TX8 17, w ∈ wsX8_setFault := by decide +kernel
  refine zg_of (own := RX8) (cc := cX8_setFault) (nL := 4) (ret := (some .int)) (by decide +kernel) rfl rfl (Nat.le_of_ble_eq_true rfl) (fun Z X hF => ?_)
  show zgGd G Z _ 0 0 4 _ 0 [(0, .ref q0), (1, .int a1), (2, .int a2)] []
  have hb30 : ∀ (y1 : Int32) (y2 : Int32) (z1 : Int32) (w0 : (Nat → Int32)) (w1 : (Nat → Int32)) (w2 : Int32) (w3 : (Nat → Int32)) (w4 : Int32) (w5 : Int32) (w6 : (Nat → Int32)) (w7 : Int32) (w8 : (Nat → Int32)) (w9 : (Nat → Int32)) (w10 : (Nat → Int32)) (w11 : Int32) (w12 : Int32) (w13 : Int32) (w14 : Int32) (w15 : (Nat → Int32)) (w16 : Int32), zf_X8_setFault_b30 fu v0 y1 y2 z1 w0 w1 w2 w3 w4 w5 w6 w7 w8 w9 w10 w11 w12 w13 w14 w15 w16 = some res → zgGd G Z ({ frames := 1, cells := 0, slots := 0, locals := 22 } : Room) 0 0 4 [(q0, .inr (7, [.ref q1, .ref q2, .int w2, .ref q3, .int w4, .int w5, .ref q4, .int w7, .ref q5, .ref q6, .ref q7, .int w11, .int w12, .int w13, .int w14, .ref q8, .int w16])), (q1, .inl (G.2.2.1, 946, .inl w0)), (q2, .inl (G.2.2.1, 5676, .inl w1)), (q3, .inl (G.2.2.1, 60, .inl w3)), (q4, .inl (G.2.2.1, 201, .inl w6)), (q5, .inl (G.2.2.1, 201, .inl w8)), (q6, .inl (G.2.2.1, 201, .inl w9)), (q7, .inl (G.2.2.1, 201, .inl w10)), (q8, .inl (G.2.2.1, 201, .inl w15))] 30 [(0, .ref q0), (1, .int y1), (2, .int y2)] [.int z1, .ref q0] := by
    intro y1 y2 z1 w0 w1 w2 w3 w4 w5 w6 w7 w8 w9 w10 w11 w12 w13 w14 w15 w16 hf
    unfold zf_X8_setFault_b30 at hf
    obtain ⟨b5, hb5, hf⟩ := pl_b hf
    refine zg_cU1 (ws2 := [(q0, .inr (7, [.ref q1, .ref q2, .int b5.2.2.2.1, .ref q3, .int b5.2.2.2.2.2.1, .int b5.2.2.2.2.2.2.1, .ref q4, .int b5.2.2.2.2.2.2.2.2.1, .ref q5, .ref q6, .ref q7, .int b5.2.2.2.2.2.2.2.2.2.2.2.2.1, .int b5.2.2.2.2.2.2.2.2.2.2.2.2.2.1, .int b5.2.2.2.2.2.2.2.2.2.2.2.2.2.2.1, .int b5.2.2.2.2.2.2.2.2.2.2.2.2.2.2.2.1, .ref q8, .int b5.2.2.2.2.2.2.2.2.2.2.2.2.2.2.2.2.2])), (q1, .inl (G.2.2.1, 946, .inl b5.2.1)), (q2, .inl (G.2.2.1, 5676, .inl b5.2.2.1)), (q3, .inl (G.2.2.1, 60, .inl b5.2.2.2.2.1)), (q4, .inl (G.2.2.1, 201, .inl b5.2.2.2.2.2.2.2.1)), (q5, .inl (G.2.2.1, 201, .inl b5.2.2.2.2.2.2.2.2.2.1)), (q6, .inl (G.2.2.1, 201, .inl b5.2.2.2.2.2.2.2.2.2.2.1)), (q7, .inl (G.2.2.1, 201, .inl b5.2.2.2.2.2.2.2.2.2.2.2.1)), (q8, .inl (G.2.2.1, 201, .inl b5.2.2.2.2.2.2.2.2.2.2.2.2.2.2.2.2.1))]) X (zg_runV X (zc_X8_refused G q0 q1 q2 q3 q4 q5 q6 q7 q8 (w0, w1, w2, w3, w4, w5, w6, w7, w8, w9, w10, w11, w12, w13, w14, w15, w16) z1 fu b5 hb5) gX8_setFault_X8_refused rfl zh_X8_refused ⟨rfl, rfl⟩ ⟨Nat.le_of_ble_eq_true rfl, Nat.le_of_ble_eq_true rfl⟩ rfl rfl rfl (Nat.le_of_ble_eq_true rfl) ⟨Nat.le_of_ble_eq_true rfl, Nat.le_of_ble_eq_true rfl⟩ [0, 1, 2, 3, 4, 5, 6, 7, 8] (by decide) rfl rfl dX8_setFault_30) rfl rfl ?_
    refine zg_if_eq (tgt := 38) X dX8_setFault_33 (by decide) (fun c6 => ?_) (fun c6 => ?_)
    · have hf := pl_t c6 hf
      refine zg_aload_n X dX8_setFault_38 rfl 0 rfl ?_
      obtain ⟨b7, hb7, hf⟩ := pl_b hf
      refine zg_cU0 (ws2 := [(q0, .inr (7, [.ref q1, .ref q2, .int b7.2.2.1, .ref q3, .int b7.2.2.2.2.1, .int b7.2.2.2.2.2.1, .ref q4, .int b7.2.2.2.2.2.2.2.1, .ref q5, .ref q6, .ref q7, .int b7.2.2.2.2.2.2.2.2.2.2.2.1, .int b7.2.2.2.2.2.2.2.2.2.2.2.2.1, .int b7.2.2.2.2.2.2.2.2.2.2.2.2.2.1, .int b7.2.2.2.2.2.2.2.2.2.2.2.2.2.2.1, .ref q8, .int b7.2.2.2.2.2.2.2.2.2.2.2.2.2.2.2.2])), (q1, .inl (G.2.2.1, 946, .inl b7.1)), (q2, .inl (G.2.2.1, 5676, .inl b7.2.1)), (q3, .inl (G.2.2.1, 60, .inl b7.2.2.2.1)), (q4, .inl (G.2.2.1, 201, .inl b7.2.2.2.2.2.2.1)), (q5, .inl (G.2.2.1, 201, .inl b7.2.2.2.2.2.2.2.2.1)), (q6, .inl (G.2.2.1, 201, .inl b7.2.2.2.2.2.2.2.2.2.1)), (q7, .inl (G.2.2.1, 201, .inl b7.2.2.2.2.2.2.2.2.2.2.1)), (q8, .inl (G.2.2.1, 201, .inl b7.2.2.2.2.2.2.2.2.2.2.2.2.2.2.2.1))]) X (zg_runV X (zc_X8_saves G q0 q1 q2 q3 q4 q5 q6 q7 q8 b5.2 fu b7 hb7) gX8_setFault_X8_saves rfl zh_X8_saves ⟨rfl, rfl⟩ ⟨Nat.le_of_ble_eq_true rfl, Nat.le_of_ble_eq_true rfl⟩ rfl rfl rfl (Nat.le_of_ble_eq_true rfl) ⟨Nat.le_of_ble_eq_true rfl, Nat.le_of_ble_eq_true rfl⟩ [0, 1, 2, 3, 4, 5, 6, 7, 8] (by decide) rfl rfl dX8_setFault_39) rfl rfl ?_
      refine zg_aload_n X dX8_setFault_42 rfl 0 rfl ?_
      refine zg_get (C := RX8) (T := TX8) (N := 17) X 0 0 hiX8 rfl rfl (by decide) hw0 rfl dX8_setFault_43 ?_
      refine zg_sipush (v := 605) X dX8_setFault_46 (by decide) ?_
      refine zg_iload_n X dX8_setFault_49 rfl 1 rfl ?_
      refine zg_iadd X dX8_setFault_50 ?_
      obtain ⟨x8, ex8, hf⟩ := pl_l hf
      refine zg_topi ex8 ?_
      obtain ⟨hin, hf⟩ := pl_in hf
      refine zg_iald X 1 rfl hin dX8_setFault_51 ?_
      obtain ⟨x9, ex9, hf⟩ := pl_l hf
      refine zg_topi ex9 ?_
      refine zg_iconst (v := 1) X dX8_setFault_52 (by decide) ?_
      refine zg_isub X dX8_setFault_53 ?_
      obtain ⟨x10, ex10, hf⟩ := pl_l hf
      refine zg_topi ex10 ?_
      refine zg_istore_n (L' := [(3, .int x10), (0, .ref q0), (1, .int y1), (2, .int y2)]) X dX8_setFault_54 rfl (by decide) rfl ?_
      refine zg_aload_n X dX8_setFault_55 rfl 1 rfl ?_
      refine zg_get (C := RX8) (T := TX8) (N := 17) X 0 0 hiX8 rfl rfl (by decide) hw0 rfl dX8_setFault_56 ?_
      refine zg_sipush (v := 605) X dX8_setFault_59 (by decide) ?_
      refine zg_iload_n X dX8_setFault_62 rfl 2 rfl ?_
      refine zg_iadd X dX8_setFault_63 ?_
      refine zg_iload_n X dX8_setFault_64 rfl 3 rfl ?_
      refine zg_iconst (v := 1) X dX8_setFault_65 (by decide) ?_
      refine zg_iadd X dX8_setFault_66 ?_
      obtain ⟨x11, ex11, hf⟩ := pl_l hf
      refine zg_topi ex11 ?_
      obtain ⟨hin, hf⟩ := pl_in hf
      obtain ⟨f12, ef12, hf⟩ := pl_l hf
      refine zg_iast (ws' := [(q0, .inr (7, [.ref q1, .ref q2, .int b7.2.2.1, .ref q3, .int b7.2.2.2.2.1, .int b7.2.2.2.2.2.1, .ref q4, .int b7.2.2.2.2.2.2.2.1, .ref q5, .ref q6, .ref q7, .int b7.2.2.2.2.2.2.2.2.2.2.2.1, .int b7.2.2.2.2.2.2.2.2.2.2.2.2.1, .int b7.2.2.2.2.2.2.2.2.2.2.2.2.2.1, .int b7.2.2.2.2.2.2.2.2.2.2.2.2.2.2.1, .ref q8, .int b7.2.2.2.2.2.2.2.2.2.2.2.2.2.2.2.2])), (q1, .inl (G.2.2.1, 946, .inl f12)), (q2, .inl (G.2.2.1, 5676, .inl b7.2.1)), (q3, .inl (G.2.2.1, 60, .inl b7.2.2.2.1)), (q4, .inl (G.2.2.1, 201, .inl b7.2.2.2.2.2.2.1)), (q5, .inl (G.2.2.1, 201, .inl b7.2.2.2.2.2.2.2.2.1)), (q6, .inl (G.2.2.1, 201, .inl b7.2.2.2.2.2.2.2.2.2.1)), (q7, .inl (G.2.2.1, 201, .inl b7.2.2.2.2.2.2.2.2.2.2.1)), (q8, .inl (G.2.2.1, 201, .inl b7.2.2.2.2.2.2.2.2.2.2.2.2.2.2.2.1))]) X 1 rfl hin (by subst ef12; rfl) dX8_setFault_67 ?_
      refine zg_iload_n X dX8_setFault_68 rfl 0 rfl ?_
      have hf := Option.some.inj hf
      subst hf
      exact zg_iret X hF rfl rfl () rfl rfl (Nat.le_of_ble_eq_true rfl) (Nat.le_of_ble_eq_true rfl) dX8_setFault_69
    · have hf := pl_f c6 hf
      refine zg_iconst (v := 0) X dX8_setFault_36 (by decide) ?_
      have hf := Option.some.inj hf
      subst hf
      exact zg_iret X hF rfl rfl () rfl rfl (Nat.le_of_ble_eq_true rfl) (Nat.le_of_ble_eq_true rfl) dX8_setFault_37
  unfold zf_X8_setFault at hf
  refine zg_aload_n X dX8_setFault_0 rfl 0 rfl ?_
  refine zg_iload_n X dX8_setFault_1 rfl 1 rfl ?_
  refine zg_iconst (v := 0) X dX8_setFault_2 (by decide) ?_
  refine zg_sipush (v := 199) X dX8_setFault_3 (by decide) ?_
  obtain ⟨b1, hb1, hf⟩ := pl_b hf
  refine zg_cP1 X (zg_runS X (zc_X8_in G a1 0 199 fu b1 hb1) gX8_setFault_X8_in rfl zh_X8_in.2 ⟨rfl, rfl⟩ ⟨Nat.le_of_ble_eq_true rfl, Nat.le_of_ble_eq_true rfl⟩ rfl (Nat.le_of_ble_eq_true rfl) ⟨Nat.le_of_ble_eq_true rfl, Nat.le_of_ble_eq_true rfl⟩ [] (by decide) rfl rfl dX8_setFault_6) rfl ?_
  refine zg_if_ne (tgt := 16) X dX8_setFault_9 (by decide) (fun c2 => ?_) (fun c2 => ?_)
  · have hf := pl_f c2 hf
    refine zg_iload_n X dX8_setFault_16 rfl 2 rfl ?_
    refine zg_iconst (v := (-1)) X dX8_setFault_17 (by decide) ?_
    refine zg_iconst (v := 5) X dX8_setFault_18 (by decide) ?_
    obtain ⟨b3, hb3, hf⟩ := pl_b hf
    refine zg_cP1 X (zg_runS X (zc_X8_in G a2 (-1) 5 fu b3 hb3) gX8_setFault_X8_in rfl zh_X8_in.2 ⟨rfl, rfl⟩ ⟨Nat.le_of_ble_eq_true rfl, Nat.le_of_ble_eq_true rfl⟩ rfl (Nat.le_of_ble_eq_true rfl) ⟨Nat.le_of_ble_eq_true rfl, Nat.le_of_ble_eq_true rfl⟩ [] (by decide) rfl rfl dX8_setFault_19) rfl ?_
    refine zg_if_eq (tgt := 29) X dX8_setFault_22 (by decide) (fun c4 => ?_) (fun c4 => ?_)
    · have hf := pl_t c4 hf
      refine zg_iconst (v := 2) X dX8_setFault_29 (by decide) ?_
      exact hb30 a1 a2 2 v0.1 v0.2.1 v0.2.2.1 v0.2.2.2.1 v0.2.2.2.2.1 v0.2.2.2.2.2.1 v0.2.2.2.2.2.2.1 v0.2.2.2.2.2.2.2.1 v0.2.2.2.2.2.2.2.2.1 v0.2.2.2.2.2.2.2.2.2.1 v0.2.2.2.2.2.2.2.2.2.2.1 v0.2.2.2.2.2.2.2.2.2.2.2.1 v0.2.2.2.2.2.2.2.2.2.2.2.2.1 v0.2.2.2.2.2.2.2.2.2.2.2.2.2.1 v0.2.2.2.2.2.2.2.2.2.2.2.2.2.2.1 v0.2.2.2.2.2.2.2.2.2.2.2.2.2.2.2.1 v0.2.2.2.2.2.2.2.2.2.2.2.2.2.2.2.2 hf
    · have hf := pl_f c4 hf
      refine zg_iconst (v := 0) X dX8_setFault_25 (by decide) ?_
      refine zg_goto (tgt := 30) X dX8_setFault_26 (by decide) ?_
      exact hb30 a1 a2 0 v0.1 v0.2.1 v0.2.2.1 v0.2.2.2.1 v0.2.2.2.2.1 v0.2.2.2.2.2.1 v0.2.2.2.2.2.2.1 v0.2.2.2.2.2.2.2.1 v0.2.2.2.2.2.2.2.2.1 v0.2.2.2.2.2.2.2.2.2.1 v0.2.2.2.2.2.2.2.2.2.2.1 v0.2.2.2.2.2.2.2.2.2.2.2.1 v0.2.2.2.2.2.2.2.2.2.2.2.2.1 v0.2.2.2.2.2.2.2.2.2.2.2.2.2.1 v0.2.2.2.2.2.2.2.2.2.2.2.2.2.2.1 v0.2.2.2.2.2.2.2.2.2.2.2.2.2.2.2.1 v0.2.2.2.2.2.2.2.2.2.2.2.2.2.2.2.2 hf
  · have hf := pl_t c2 hf
    refine zg_iconst (v := 1) X dX8_setFault_12 (by decide) ?_
    refine zg_goto (tgt := 30) X dX8_setFault_13 (by decide) ?_
    exact hb30 a1 a2 1 v0.1 v0.2.1 v0.2.2.1 v0.2.2.2.1 v0.2.2.2.2.1 v0.2.2.2.2.2.1 v0.2.2.2.2.2.2.1 v0.2.2.2.2.2.2.2.1 v0.2.2.2.2.2.2.2.2.1 v0.2.2.2.2.2.2.2.2.2.1 v0.2.2.2.2.2.2.2.2.2.2.1 v0.2.2.2.2.2.2.2.2.2.2.2.1 v0.2.2.2.2.2.2.2.2.2.2.2.2.1 v0.2.2.2.2.2.2.2.2.2.2.2.2.2.1 v0.2.2.2.2.2.2.2.2.2.2.2.2.2.2.1 v0.2.2.2.2.2.2.2.2.2.2.2.2.2.2.2.1 v0.2.2.2.2.2.2.2.2.2.2.2.2.2.2.2.2 hf
theorem zh_X8_sent : yX8_sent.cls = RX8 ∧ yX8_sent.cls ≠ "java/lang/invoke/MethodHandle" ∧ yX8_sent.cls ≠ "java/lang/invoke/VarHandle" ∧ (parseMethodDescriptor yX8_sent.desc).map (fun d => d.parameters.length) = some 0 := by decide +kernel
set_option maxHeartbeats 8000000 in
set_option maxRecDepth 100000 in
theorem zc_X8_sent (G : zgG) (q0 q1 q2 q3 q4 q5 q6 q7 q8 : Nat) (v0 : zModel) (fu : Nat) (res : (Int32 × zModel)) (hf : zf_X8_sent fu v0 = some res) : zgCt G yX8_sent wsX8_sent ({ frames := 0, cells := 0, slots := 0, locals := 0 } : Room) [.ref q0] [(q0, .inr (7, [.ref q1, .ref q2, .int v0.2.2.1, .ref q3, .int v0.2.2.2.2.1, .int v0.2.2.2.2.2.1, .ref q4, .int v0.2.2.2.2.2.2.2.1, .ref q5, .ref q6, .ref q7, .int v0.2.2.2.2.2.2.2.2.2.2.2.1, .int v0.2.2.2.2.2.2.2.2.2.2.2.2.1, .int v0.2.2.2.2.2.2.2.2.2.2.2.2.2.1, .int v0.2.2.2.2.2.2.2.2.2.2.2.2.2.2.1, .ref q8, .int v0.2.2.2.2.2.2.2.2.2.2.2.2.2.2.2.2])), (q1, .inl (G.2.2.1, 946, .inl v0.1)), (q2, .inl (G.2.2.1, 5676, .inl v0.2.1)), (q3, .inl (G.2.2.1, 60, .inl v0.2.2.2.1)), (q4, .inl (G.2.2.1, 201, .inl v0.2.2.2.2.2.2.1)), (q5, .inl (G.2.2.1, 201, .inl v0.2.2.2.2.2.2.2.2.1)), (q6, .inl (G.2.2.1, 201, .inl v0.2.2.2.2.2.2.2.2.2.1)), (q7, .inl (G.2.2.1, 201, .inl v0.2.2.2.2.2.2.2.2.2.2.1)), (q8, .inl (G.2.2.1, 201, .inl v0.2.2.2.2.2.2.2.2.2.2.2.2.2.2.2.1))] (fun _ : Unit => some (.int res.1)) (fun _ => [(q0, .inr (7, [.ref q1, .ref q2, .int res.2.2.2.1, .ref q3, .int res.2.2.2.2.2.1, .int res.2.2.2.2.2.2.1, .ref q4, .int res.2.2.2.2.2.2.2.2.1, .ref q5, .ref q6, .ref q7, .int res.2.2.2.2.2.2.2.2.2.2.2.2.1, .int res.2.2.2.2.2.2.2.2.2.2.2.2.2.1, .int res.2.2.2.2.2.2.2.2.2.2.2.2.2.2.1, .int res.2.2.2.2.2.2.2.2.2.2.2.2.2.2.2.1, .ref q8, .int res.2.2.2.2.2.2.2.2.2.2.2.2.2.2.2.2.2])), (q1, .inl (G.2.2.1, 946, .inl res.2.1)), (q2, .inl (G.2.2.1, 5676, .inl res.2.2.1)), (q3, .inl (G.2.2.1, 60, .inl res.2.2.2.2.1)), (q4, .inl (G.2.2.1, 201, .inl res.2.2.2.2.2.2.2.1)), (q5, .inl (G.2.2.1, 201, .inl res.2.2.2.2.2.2.2.2.2.1)), (q6, .inl (G.2.2.1, 201, .inl res.2.2.2.2.2.2.2.2.2.2.1)), (q7, .inl (G.2.2.1, 201, .inl res.2.2.2.2.2.2.2.2.2.2.2.1)), (q8, .inl (G.2.2.1, 201, .inl res.2.2.2.2.2.2.2.2.2.2.2.2.2.2.2.2.1))]) 0 0 := by
  have hw0 : Cond.fieldLink RX8 38 "TelexReceiverModel" "thrown" "I" ∈ wsX8_sent := by decide +kernel
  have hw1 : Cond.fieldLink RX8 7 "TelexReceiverModel" "s" "[I" ∈ wsX8_sent := by decide +kernel
  have hiX8 : ∀ w ∈ u_ws RX8 TX8 17, w ∈ wsX8_sent := by decide +kernel
  refine zg_of (own := RX8) (cc := cX8_sent) (nL := 1) (ret := (some .int)) (by decide +kernel) rfl rfl (Nat.le_of_ble_eq_true rfl) (fun Z X hF => ?_)
  show zgGd G Z _ 0 0 1 _ 0 [(0, .ref q0)] []
  unfold zf_X8_sent at hf
  refine zg_aload_n X dX8_sent_0 rfl 0 rfl ?_
  refine zg_iconst (v := 0) X dX8_sent_1 (by decide) ?_
  refine zg_put (C := RX8) (T := TX8) (N := 17) (ty := .int) (ws' := [(q0, .inr (7, [.ref q1, .ref q2, .int v0.2.2.1, .ref q3, .int v0.2.2.2.2.1, .int 0, .ref q4, .int v0.2.2.2.2.2.2.2.1, .ref q5, .ref q6, .ref q7, .int v0.2.2.2.2.2.2.2.2.2.2.2.1, .int v0.2.2.2.2.2.2.2.2.2.2.2.2.1, .int v0.2.2.2.2.2.2.2.2.2.2.2.2.2.1, .int v0.2.2.2.2.2.2.2.2.2.2.2.2.2.2.1, .ref q8, .int v0.2.2.2.2.2.2.2.2.2.2.2.2.2.2.2.2])), (q1, .inl (G.2.2.1, 946, .inl v0.1)), (q2, .inl (G.2.2.1, 5676, .inl v0.2.1)), (q3, .inl (G.2.2.1, 60, .inl v0.2.2.2.1)), (q4, .inl (G.2.2.1, 201, .inl v0.2.2.2.2.2.2.1)), (q5, .inl (G.2.2.1, 201, .inl v0.2.2.2.2.2.2.2.2.1)), (q6, .inl (G.2.2.1, 201, .inl v0.2.2.2.2.2.2.2.2.2.1)), (q7, .inl (G.2.2.1, 201, .inl v0.2.2.2.2.2.2.2.2.2.2.1)), (q8, .inl (G.2.2.1, 201, .inl v0.2.2.2.2.2.2.2.2.2.2.2.2.2.2.2.1))]) X 0 5 hiX8 tyX8 tyX8_ok nmX8 rfl rfl (by decide) hw0 rfl (by decide +kernel) rfl rfl (Nat.le_of_ble_eq_true rfl) rfl dX8_sent_2 ?_
  refine zg_aload_n X dX8_sent_5 rfl 0 rfl ?_
  refine zg_get (C := RX8) (T := TX8) (N := 17) X 0 0 hiX8 rfl rfl (by decide) hw1 rfl dX8_sent_6 ?_
  refine zg_iconst (v := 0) X dX8_sent_9 (by decide) ?_
  refine zg_iald X 1 rfl (by unfold vp_in; decide) dX8_sent_10 ?_
  obtain ⟨x1, ex1, hf⟩ := pl_l hf
  refine zg_topi ex1 ?_
  have hf := Option.some.inj hf
  subst hf
  exact zg_iret X hF rfl rfl () rfl rfl (Nat.le_of_ble_eq_true rfl) (Nat.le_of_ble_eq_true rfl) dX8_sent_11
theorem zh_X8_received : yX8_received.cls = RX8 ∧ yX8_received.cls ≠ "java/lang/invoke/MethodHandle" ∧ yX8_received.cls ≠ "java/lang/invoke/VarHandle" ∧ (parseMethodDescriptor yX8_received.desc).map (fun d => d.parameters.length) = some 0 := by decide +kernel
set_option maxHeartbeats 8000000 in
set_option maxRecDepth 100000 in
theorem zc_X8_received (G : zgG) (q0 q1 q2 q3 q4 q5 q6 q7 q8 : Nat) (v0 : zModel) (fu : Nat) (res : (Int32 × zModel)) (hf : zf_X8_received fu v0 = some res) : zgCt G yX8_received wsX8_received ({ frames := 0, cells := 0, slots := 0, locals := 0 } : Room) [.ref q0] [(q0, .inr (7, [.ref q1, .ref q2, .int v0.2.2.1, .ref q3, .int v0.2.2.2.2.1, .int v0.2.2.2.2.2.1, .ref q4, .int v0.2.2.2.2.2.2.2.1, .ref q5, .ref q6, .ref q7, .int v0.2.2.2.2.2.2.2.2.2.2.2.1, .int v0.2.2.2.2.2.2.2.2.2.2.2.2.1, .int v0.2.2.2.2.2.2.2.2.2.2.2.2.2.1, .int v0.2.2.2.2.2.2.2.2.2.2.2.2.2.2.1, .ref q8, .int v0.2.2.2.2.2.2.2.2.2.2.2.2.2.2.2.2])), (q1, .inl (G.2.2.1, 946, .inl v0.1)), (q2, .inl (G.2.2.1, 5676, .inl v0.2.1)), (q3, .inl (G.2.2.1, 60, .inl v0.2.2.2.1)), (q4, .inl (G.2.2.1, 201, .inl v0.2.2.2.2.2.2.1)), (q5, .inl (G.2.2.1, 201, .inl v0.2.2.2.2.2.2.2.2.1)), (q6, .inl (G.2.2.1, 201, .inl v0.2.2.2.2.2.2.2.2.2.1)), (q7, .inl (G.2.2.1, 201, .inl v0.2.2.2.2.2.2.2.2.2.2.1)), (q8, .inl (G.2.2.1, 201, .inl v0.2.2.2.2.2.2.2.2.2.2.2.2.2.2.2.1))] (fun _ : Unit => some (.int res.1)) (fun _ => [(q0, .inr (7, [.ref q1, .ref q2, .int res.2.2.2.1, .ref q3, .int res.2.2.2.2.2.1, .int res.2.2.2.2.2.2.1, .ref q4, .int res.2.2.2.2.2.2.2.2.1, .ref q5, .ref q6, .ref q7, .int res.2.2.2.2.2.2.2.2.2.2.2.2.1, .int res.2.2.2.2.2.2.2.2.2.2.2.2.2.1, .int res.2.2.2.2.2.2.2.2.2.2.2.2.2.2.1, .int res.2.2.2.2.2.2.2.2.2.2.2.2.2.2.2.1, .ref q8, .int res.2.2.2.2.2.2.2.2.2.2.2.2.2.2.2.2.2])), (q1, .inl (G.2.2.1, 946, .inl res.2.1)), (q2, .inl (G.2.2.1, 5676, .inl res.2.2.1)), (q3, .inl (G.2.2.1, 60, .inl res.2.2.2.2.1)), (q4, .inl (G.2.2.1, 201, .inl res.2.2.2.2.2.2.2.1)), (q5, .inl (G.2.2.1, 201, .inl res.2.2.2.2.2.2.2.2.2.1)), (q6, .inl (G.2.2.1, 201, .inl res.2.2.2.2.2.2.2.2.2.2.1)), (q7, .inl (G.2.2.1, 201, .inl res.2.2.2.2.2.2.2.2.2.2.2.1)), (q8, .inl (G.2.2.1, 201, .inl res.2.2.2.2.2.2.2.2.2.2.2.2.2.2.2.2.1))]) 0 0 := by
  have hw0 : Cond.fieldLink RX8 38 "TelexReceiverModel" "thrown" "I" ∈ wsX8_received := by decide +kernel
  have hw1 : Cond.fieldLink RX8 7 "TelexReceiverModel" "s" "[I" ∈ wsX8_received := by decide +kernel
  have hiX8 : ∀ w ∈ u_ws RX8 TX8 17, w ∈ wsX8_received := by decide +kernel
  refine zg_of (own := RX8) (cc := cX8_received) (nL := 1) (ret := (some .int)) (by decide +kernel) rfl rfl (Nat.le_of_ble_eq_true rfl) (fun Z X hF => ?_)
  show zgGd G Z _ 0 0 1 _ 0 [(0, .ref q0)] []
  unfold zf_X8_received at hf
  refine zg_aload_n X dX8_received_0 rfl 0 rfl ?_
  refine zg_iconst (v := 0) X dX8_received_1 (by decide) ?_
  refine zg_put (C := RX8) (T := TX8) (N := 17) (ty := .int) (ws' := [(q0, .inr (7, [.ref q1, .ref q2, .int v0.2.2.1, .ref q3, .int v0.2.2.2.2.1, .int 0, .ref q4, .int v0.2.2.2.2.2.2.2.1, .ref q5, .ref q6, .ref q7, .int v0.2.2.2.2.2.2.2.2.2.2.2.1, .int v0.2.2.2.2.2.2.2.2.2.2.2.2.1, .int v0.2.2.2.2.2.2.2.2.2.2.2.2.2.1, .int v0.2.2.2.2.2.2.2.2.2.2.2.2.2.2.1, .ref q8, .int v0.2.2.2.2.2.2.2.2.2.2.2.2.2.2.2.2])), (q1, .inl (G.2.2.1, 946, .inl v0.1)), (q2, .inl (G.2.2.1, 5676, .inl v0.2.1)), (q3, .inl (G.2.2.1, 60, .inl v0.2.2.2.1)), (q4, .inl (G.2.2.1, 201, .inl v0.2.2.2.2.2.2.1)), (q5, .inl (G.2.2.1, 201, .inl v0.2.2.2.2.2.2.2.2.1)), (q6, .inl (G.2.2.1, 201, .inl v0.2.2.2.2.2.2.2.2.2.1)), (q7, .inl (G.2.2.1, 201, .inl v0.2.2.2.2.2.2.2.2.2.2.1)), (q8, .inl (G.2.2.1, 201, .inl v0.2.2.2.2.2.2.2.2.2.2.2.2.2.2.2.1))]) X 0 5 hiX8 tyX8 tyX8_ok nmX8 rfl rfl (by decide) hw0 rfl (by decide +kernel) rfl rfl (Nat.le_of_ble_eq_true rfl) rfl dX8_received_2 ?_
  refine zg_aload_n X dX8_received_5 rfl 0 rfl ?_
  refine zg_get (C := RX8) (T := TX8) (N := 17) X 0 0 hiX8 rfl rfl (by decide) hw1 rfl dX8_received_6 ?_
  refine zg_sipush (v := 201) X dX8_received_9 (by decide) ?_
  refine zg_iald X 1 rfl (by unfold vp_in; decide) dX8_received_12 ?_
  obtain ⟨x1, ex1, hf⟩ := pl_l hf
  refine zg_topi ex1 ?_
  have hf := Option.some.inj hf
  subst hf
  exact zg_iret X hF rfl rfl () rfl rfl (Nat.le_of_ble_eq_true rfl) (Nat.le_of_ble_eq_true rfl) dX8_received_13
theorem zh_X8_sentCode : yX8_sentCode.cls = RX8 ∧ yX8_sentCode.cls ≠ "java/lang/invoke/MethodHandle" ∧ yX8_sentCode.cls ≠ "java/lang/invoke/VarHandle" ∧ (parseMethodDescriptor yX8_sentCode.desc).map (fun d => d.parameters.length) = some 1 := by decide +kernel
set_option maxHeartbeats 8000000 in
set_option maxRecDepth 100000 in
theorem zc_X8_sentCode (G : zgG) (q0 q1 q2 q3 q4 q5 q6 q7 q8 : Nat) (v0 : zModel) (a1 : Int32) (fu : Nat) (res : (Int32 × zModel)) (hf : zf_X8_sentCode fu v0 a1 = some res) : zgCt G yX8_sentCode wsX8_sentCode ({ frames := 1, cells := 0, slots := 0, locals := 22 } : Room) [.ref q0, .int a1] [(q0, .inr (7, [.ref q1, .ref q2, .int v0.2.2.1, .ref q3, .int v0.2.2.2.2.1, .int v0.2.2.2.2.2.1, .ref q4, .int v0.2.2.2.2.2.2.2.1, .ref q5, .ref q6, .ref q7, .int v0.2.2.2.2.2.2.2.2.2.2.2.1, .int v0.2.2.2.2.2.2.2.2.2.2.2.2.1, .int v0.2.2.2.2.2.2.2.2.2.2.2.2.2.1, .int v0.2.2.2.2.2.2.2.2.2.2.2.2.2.2.1, .ref q8, .int v0.2.2.2.2.2.2.2.2.2.2.2.2.2.2.2.2])), (q1, .inl (G.2.2.1, 946, .inl v0.1)), (q2, .inl (G.2.2.1, 5676, .inl v0.2.1)), (q3, .inl (G.2.2.1, 60, .inl v0.2.2.2.1)), (q4, .inl (G.2.2.1, 201, .inl v0.2.2.2.2.2.2.1)), (q5, .inl (G.2.2.1, 201, .inl v0.2.2.2.2.2.2.2.2.1)), (q6, .inl (G.2.2.1, 201, .inl v0.2.2.2.2.2.2.2.2.2.1)), (q7, .inl (G.2.2.1, 201, .inl v0.2.2.2.2.2.2.2.2.2.2.1)), (q8, .inl (G.2.2.1, 201, .inl v0.2.2.2.2.2.2.2.2.2.2.2.2.2.2.2.1))] (fun _ : Unit => some (.int res.1)) (fun _ => [(q0, .inr (7, [.ref q1, .ref q2, .int res.2.2.2.1, .ref q3, .int res.2.2.2.2.2.1, .int res.2.2.2.2.2.2.1, .ref q4, .int res.2.2.2.2.2.2.2.2.1, .ref q5, .ref q6, .ref q7, .int res.2.2.2.2.2.2.2.2.2.2.2.2.1, .int res.2.2.2.2.2.2.2.2.2.2.2.2.2.1, .int res.2.2.2.2.2.2.2.2.2.2.2.2.2.2.1, .int res.2.2.2.2.2.2.2.2.2.2.2.2.2.2.2.1, .ref q8, .int res.2.2.2.2.2.2.2.2.2.2.2.2.2.2.2.2.2])), (q1, .inl (G.2.2.1, 946, .inl res.2.1)), (q2, .inl (G.2.2.1, 5676, .inl res.2.2.1)), (q3, .inl (G.2.2.1, 60, .inl res.2.2.2.2.1)), (q4, .inl (G.2.2.1, 201, .inl res.2.2.2.2.2.2.2.1)), (q5, .inl (G.2.2.1, 201, .inl res.2.2.2.2.2.2.2.2.2.1)), (q6, .inl (G.2.2.1, 201, .inl res.2.2.2.2.2.2.2.2.2.2.1)), (q7, .inl (G.2.2.1, 201, .inl res.2.2.2.2.2.2.2.2.2.2.2.1)), (q8, .inl (G.2.2.1, 201, .inl res.2.2.2.2.2.2.2.2.2.2.2.2.2.2.2.2.1))]) 0 0 := by
  have hw0 : Cond.fieldLink RX8 7 "TelexReceiverModel" "s" "[I" ∈ wsX8_sentCode := by decide +kernel
  have hiX8 : ∀ w ∈ u_ws RX8 TX8 17, w ∈ wsX8_sentCode := by decide +kernel
  refine zg_of (own := RX8) (cc := cX8_sentCode) (nL := 2) (ret := (some .int)) (by decide +kernel) rfl rfl (Nat.le_of_ble_eq_true rfl) (fun Z X hF => ?_)
  show zgGd G Z _ 0 0 2 _ 0 [(0, .ref q0), (1, .int a1)] []
  have hb22 : ∀ (y1 : Int32) (z1 : Int32) (w0 : (Nat → Int32)) (w1 : (Nat → Int32)) (w2 : Int32) (w3 : (Nat → Int32)) (w4 : Int32) (w5 : Int32) (w6 : (Nat → Int32)) (w7 : Int32) (w8 : (Nat → Int32)) (w9 : (Nat → Int32)) (w10 : (Nat → Int32)) (w11 : Int32) (w12 : Int32) (w13 : Int32) (w14 : Int32) (w15 : (Nat → Int32)) (w16 : Int32), zf_X8_sentCode_b22 fu v0 y1 z1 w0 w1 w2 w3 w4 w5 w6 w7 w8 w9 w10 w11 w12 w13 w14 w15 w16 = some res → zgGd G Z ({ frames := 1, cells := 0, slots := 0, locals := 22 } : Room) 0 0 2 [(q0, .inr (7, [.ref q1, .ref q2, .int w2, .ref q3, .int w4, .int w5, .ref q4, .int w7, .ref q5, .ref q6, .ref q7, .int w11, .int w12, .int w13, .int w14, .ref q8, .int w16])), (q1, .inl (G.2.2.1, 946, .inl w0)), (q2, .inl (G.2.2.1, 5676, .inl w1)), (q3, .inl (G.2.2.1, 60, .inl w3)), (q4, .inl (G.2.2.1, 201, .inl w6)), (q5, .inl (G.2.2.1, 201, .inl w8)), (q6, .inl (G.2.2.1, 201, .inl w9)), (q7, .inl (G.2.2.1, 201, .inl w10)), (q8, .inl (G.2.2.1, 201, .inl w15))] 22 [(0, .ref q0), (1, .int y1)] [.int z1, .ref q0] := by
    intro y1 z1 w0 w1 w2 w3 w4 w5 w6 w7 w8 w9 w10 w11 w12 w13 w14 w15 w16 hf
    unfold zf_X8_sentCode_b22 at hf
    obtain ⟨b4, hb4, hf⟩ := pl_b hf
    refine zg_cU1 (ws2 := [(q0, .inr (7, [.ref q1, .ref q2, .int b4.2.2.2.1, .ref q3, .int b4.2.2.2.2.2.1, .int b4.2.2.2.2.2.2.1, .ref q4, .int b4.2.2.2.2.2.2.2.2.1, .ref q5, .ref q6, .ref q7, .int b4.2.2.2.2.2.2.2.2.2.2.2.2.1, .int b4.2.2.2.2.2.2.2.2.2.2.2.2.2.1, .int b4.2.2.2.2.2.2.2.2.2.2.2.2.2.2.1, .int b4.2.2.2.2.2.2.2.2.2.2.2.2.2.2.2.1, .ref q8, .int b4.2.2.2.2.2.2.2.2.2.2.2.2.2.2.2.2.2])), (q1, .inl (G.2.2.1, 946, .inl b4.2.1)), (q2, .inl (G.2.2.1, 5676, .inl b4.2.2.1)), (q3, .inl (G.2.2.1, 60, .inl b4.2.2.2.2.1)), (q4, .inl (G.2.2.1, 201, .inl b4.2.2.2.2.2.2.2.1)), (q5, .inl (G.2.2.1, 201, .inl b4.2.2.2.2.2.2.2.2.2.1)), (q6, .inl (G.2.2.1, 201, .inl b4.2.2.2.2.2.2.2.2.2.2.1)), (q7, .inl (G.2.2.1, 201, .inl b4.2.2.2.2.2.2.2.2.2.2.2.1)), (q8, .inl (G.2.2.1, 201, .inl b4.2.2.2.2.2.2.2.2.2.2.2.2.2.2.2.2.1))]) X (zg_runV X (zc_X8_refused G q0 q1 q2 q3 q4 q5 q6 q7 q8 (w0, w1, w2, w3, w4, w5, w6, w7, w8, w9, w10, w11, w12, w13, w14, w15, w16) z1 fu b4 hb4) gX8_sentCode_X8_refused rfl zh_X8_refused ⟨rfl, rfl⟩ ⟨Nat.le_of_ble_eq_true rfl, Nat.le_of_ble_eq_true rfl⟩ rfl rfl rfl (Nat.le_of_ble_eq_true rfl) ⟨Nat.le_of_ble_eq_true rfl, Nat.le_of_ble_eq_true rfl⟩ [0, 1, 2, 3, 4, 5, 6, 7, 8] (by decide) rfl rfl dX8_sentCode_22) rfl rfl ?_
    refine zg_if_eq (tgt := 30) X dX8_sentCode_25 (by decide) (fun c5 => ?_) (fun c5 => ?_)
    · have hf := pl_t c5 hf
      refine zg_aload_n X dX8_sentCode_30 rfl 0 rfl ?_
      refine zg_get (C := RX8) (T := TX8) (N := 17) X 0 0 hiX8 rfl rfl (by decide) hw0 rfl dX8_sentCode_31 ?_
      refine zg_iconst (v := 1) X dX8_sentCode_34 (by decide) ?_
      refine zg_iload_n X dX8_sentCode_35 rfl 1 rfl ?_
      refine zg_iadd X dX8_sentCode_36 ?_
      obtain ⟨x6, ex6, hf⟩ := pl_l hf
      refine zg_topi ex6 ?_
      obtain ⟨hin, hf⟩ := pl_in hf
      refine zg_iald X 1 rfl hin dX8_sentCode_37 ?_
      obtain ⟨x7, ex7, hf⟩ := pl_l hf
      refine zg_topi ex7 ?_
      have hf := Option.some.inj hf
      subst hf
      exact zg_iret X hF rfl rfl () rfl rfl (Nat.le_of_ble_eq_true rfl) (Nat.le_of_ble_eq_true rfl) dX8_sentCode_38
    · have hf := pl_f c5 hf
      refine zg_iconst (v := 0) X dX8_sentCode_28 (by decide) ?_
      have hf := Option.some.inj hf
      subst hf
      exact zg_iret X hF rfl rfl () rfl rfl (Nat.le_of_ble_eq_true rfl) (Nat.le_of_ble_eq_true rfl) dX8_sentCode_29
  unfold zf_X8_sentCode at hf
  refine zg_aload_n X dX8_sentCode_0 rfl 0 rfl ?_
  refine zg_iload_n X dX8_sentCode_1 rfl 1 rfl ?_
  refine zg_iconst (v := 0) X dX8_sentCode_2 (by decide) ?_
  refine zg_aload_n X dX8_sentCode_3 rfl 0 rfl ?_
  refine zg_get (C := RX8) (T := TX8) (N := 17) X 0 0 hiX8 rfl rfl (by decide) hw0 rfl dX8_sentCode_4 ?_
  refine zg_iconst (v := 0) X dX8_sentCode_7 (by decide) ?_
  refine zg_iald X 1 rfl (by unfold vp_in; decide) dX8_sentCode_8 ?_
  obtain ⟨x1, ex1, hf⟩ := pl_l hf
  refine zg_topi ex1 ?_
  refine zg_iconst (v := 1) X dX8_sentCode_9 (by decide) ?_
  refine zg_isub X dX8_sentCode_10 ?_
  obtain ⟨b2, hb2, hf⟩ := pl_b hf
  refine zg_cP1 X (zg_runS X (zc_X8_in G a1 0 (x1 - (1 : Int32)) fu b2 hb2) gX8_sentCode_X8_in rfl zh_X8_in.2 ⟨rfl, rfl⟩ ⟨Nat.le_of_ble_eq_true rfl, Nat.le_of_ble_eq_true rfl⟩ rfl (Nat.le_of_ble_eq_true rfl) ⟨Nat.le_of_ble_eq_true rfl, Nat.le_of_ble_eq_true rfl⟩ [] (by decide) rfl rfl dX8_sentCode_11) rfl ?_
  refine zg_if_eq (tgt := 21) X dX8_sentCode_14 (by decide) (fun c3 => ?_) (fun c3 => ?_)
  · have hf := pl_t c3 hf
    refine zg_iconst (v := 1) X dX8_sentCode_21 (by decide) ?_
    exact hb22 a1 1 v0.1 v0.2.1 v0.2.2.1 v0.2.2.2.1 v0.2.2.2.2.1 v0.2.2.2.2.2.1 v0.2.2.2.2.2.2.1 v0.2.2.2.2.2.2.2.1 v0.2.2.2.2.2.2.2.2.1 v0.2.2.2.2.2.2.2.2.2.1 v0.2.2.2.2.2.2.2.2.2.2.1 v0.2.2.2.2.2.2.2.2.2.2.2.1 v0.2.2.2.2.2.2.2.2.2.2.2.2.1 v0.2.2.2.2.2.2.2.2.2.2.2.2.2.1 v0.2.2.2.2.2.2.2.2.2.2.2.2.2.2.1 v0.2.2.2.2.2.2.2.2.2.2.2.2.2.2.2.1 v0.2.2.2.2.2.2.2.2.2.2.2.2.2.2.2.2 hf
  · have hf := pl_f c3 hf
    refine zg_iconst (v := 0) X dX8_sentCode_17 (by decide) ?_
    refine zg_goto (tgt := 22) X dX8_sentCode_18 (by decide) ?_
    exact hb22 a1 0 v0.1 v0.2.1 v0.2.2.1 v0.2.2.2.1 v0.2.2.2.2.1 v0.2.2.2.2.2.1 v0.2.2.2.2.2.2.1 v0.2.2.2.2.2.2.2.1 v0.2.2.2.2.2.2.2.2.1 v0.2.2.2.2.2.2.2.2.2.1 v0.2.2.2.2.2.2.2.2.2.2.1 v0.2.2.2.2.2.2.2.2.2.2.2.1 v0.2.2.2.2.2.2.2.2.2.2.2.2.1 v0.2.2.2.2.2.2.2.2.2.2.2.2.2.1 v0.2.2.2.2.2.2.2.2.2.2.2.2.2.2.1 v0.2.2.2.2.2.2.2.2.2.2.2.2.2.2.2.1 v0.2.2.2.2.2.2.2.2.2.2.2.2.2.2.2.2 hf
theorem zh_X8_receivedCode : yX8_receivedCode.cls = RX8 ∧ yX8_receivedCode.cls ≠ "java/lang/invoke/MethodHandle" ∧ yX8_receivedCode.cls ≠ "java/lang/invoke/VarHandle" ∧ (parseMethodDescriptor yX8_receivedCode.desc).map (fun d => d.parameters.length) = some 1 := by decide +kernel
set_option maxHeartbeats 8000000 in
set_option maxRecDepth 100000 in
theorem zc_X8_receivedCode (G : zgG) (q0 q1 q2 q3 q4 q5 q6 q7 q8 : Nat) (v0 : zModel) (a1 : Int32) (fu : Nat) (res : (Int32 × zModel)) (hf : zf_X8_receivedCode fu v0 a1 = some res) : zgCt G yX8_receivedCode wsX8_receivedCode ({ frames := 1, cells := 0, slots := 0, locals := 22 } : Room) [.ref q0, .int a1] [(q0, .inr (7, [.ref q1, .ref q2, .int v0.2.2.1, .ref q3, .int v0.2.2.2.2.1, .int v0.2.2.2.2.2.1, .ref q4, .int v0.2.2.2.2.2.2.2.1, .ref q5, .ref q6, .ref q7, .int v0.2.2.2.2.2.2.2.2.2.2.2.1, .int v0.2.2.2.2.2.2.2.2.2.2.2.2.1, .int v0.2.2.2.2.2.2.2.2.2.2.2.2.2.1, .int v0.2.2.2.2.2.2.2.2.2.2.2.2.2.2.1, .ref q8, .int v0.2.2.2.2.2.2.2.2.2.2.2.2.2.2.2.2])), (q1, .inl (G.2.2.1, 946, .inl v0.1)), (q2, .inl (G.2.2.1, 5676, .inl v0.2.1)), (q3, .inl (G.2.2.1, 60, .inl v0.2.2.2.1)), (q4, .inl (G.2.2.1, 201, .inl v0.2.2.2.2.2.2.1)), (q5, .inl (G.2.2.1, 201, .inl v0.2.2.2.2.2.2.2.2.1)), (q6, .inl (G.2.2.1, 201, .inl v0.2.2.2.2.2.2.2.2.2.1)), (q7, .inl (G.2.2.1, 201, .inl v0.2.2.2.2.2.2.2.2.2.2.1)), (q8, .inl (G.2.2.1, 201, .inl v0.2.2.2.2.2.2.2.2.2.2.2.2.2.2.2.1))] (fun _ : Unit => some (.int res.1)) (fun _ => [(q0, .inr (7, [.ref q1, .ref q2, .int res.2.2.2.1, .ref q3, .int res.2.2.2.2.2.1, .int res.2.2.2.2.2.2.1, .ref q4, .int res.2.2.2.2.2.2.2.2.1, .ref q5, .ref q6, .ref q7, .int res.2.2.2.2.2.2.2.2.2.2.2.2.1, .int res.2.2.2.2.2.2.2.2.2.2.2.2.2.1, .int res.2.2.2.2.2.2.2.2.2.2.2.2.2.2.1, .int res.2.2.2.2.2.2.2.2.2.2.2.2.2.2.2.1, .ref q8, .int res.2.2.2.2.2.2.2.2.2.2.2.2.2.2.2.2.2])), (q1, .inl (G.2.2.1, 946, .inl res.2.1)), (q2, .inl (G.2.2.1, 5676, .inl res.2.2.1)), (q3, .inl (G.2.2.1, 60, .inl res.2.2.2.2.1)), (q4, .inl (G.2.2.1, 201, .inl res.2.2.2.2.2.2.2.1)), (q5, .inl (G.2.2.1, 201, .inl res.2.2.2.2.2.2.2.2.2.1)), (q6, .inl (G.2.2.1, 201, .inl res.2.2.2.2.2.2.2.2.2.2.1)), (q7, .inl (G.2.2.1, 201, .inl res.2.2.2.2.2.2.2.2.2.2.2.1)), (q8, .inl (G.2.2.1, 201, .inl res.2.2.2.2.2.2.2.2.2.2.2.2.2.2.2.2.1))]) 0 0 := by
  have hw0 : Cond.fieldLink RX8 7 "TelexReceiverModel" "s" "[I" ∈ wsX8_receivedCode := by decide +kernel
  have hiX8 : ∀ w ∈ u_ws RX8 TX8 17, w ∈ wsX8_receivedCode := by decide +kernel
  refine zg_of (own := RX8) (cc := cX8_receivedCode) (nL := 2) (ret := (some .int)) (by decide +kernel) rfl rfl (Nat.le_of_ble_eq_true rfl) (fun Z X hF => ?_)
  show zgGd G Z _ 0 0 2 _ 0 [(0, .ref q0), (1, .int a1)] []
  have hb24 : ∀ (y1 : Int32) (z1 : Int32) (w0 : (Nat → Int32)) (w1 : (Nat → Int32)) (w2 : Int32) (w3 : (Nat → Int32)) (w4 : Int32) (w5 : Int32) (w6 : (Nat → Int32)) (w7 : Int32) (w8 : (Nat → Int32)) (w9 : (Nat → Int32)) (w10 : (Nat → Int32)) (w11 : Int32) (w12 : Int32) (w13 : Int32) (w14 : Int32) (w15 : (Nat → Int32)) (w16 : Int32), zf_X8_receivedCode_b24 fu v0 y1 z1 w0 w1 w2 w3 w4 w5 w6 w7 w8 w9 w10 w11 w12 w13 w14 w15 w16 = some res → zgGd G Z ({ frames := 1, cells := 0, slots := 0, locals := 22 } : Room) 0 0 2 [(q0, .inr (7, [.ref q1, .ref q2, .int w2, .ref q3, .int w4, .int w5, .ref q4, .int w7, .ref q5, .ref q6, .ref q7, .int w11, .int w12, .int w13, .int w14, .ref q8, .int w16])), (q1, .inl (G.2.2.1, 946, .inl w0)), (q2, .inl (G.2.2.1, 5676, .inl w1)), (q3, .inl (G.2.2.1, 60, .inl w3)), (q4, .inl (G.2.2.1, 201, .inl w6)), (q5, .inl (G.2.2.1, 201, .inl w8)), (q6, .inl (G.2.2.1, 201, .inl w9)), (q7, .inl (G.2.2.1, 201, .inl w10)), (q8, .inl (G.2.2.1, 201, .inl w15))] 24 [(0, .ref q0), (1, .int y1)] [.int z1, .ref q0] := by
    intro y1 z1 w0 w1 w2 w3 w4 w5 w6 w7 w8 w9 w10 w11 w12 w13 w14 w15 w16 hf
    unfold zf_X8_receivedCode_b24 at hf
    obtain ⟨b4, hb4, hf⟩ := pl_b hf
    refine zg_cU1 (ws2 := [(q0, .inr (7, [.ref q1, .ref q2, .int b4.2.2.2.1, .ref q3, .int b4.2.2.2.2.2.1, .int b4.2.2.2.2.2.2.1, .ref q4, .int b4.2.2.2.2.2.2.2.2.1, .ref q5, .ref q6, .ref q7, .int b4.2.2.2.2.2.2.2.2.2.2.2.2.1, .int b4.2.2.2.2.2.2.2.2.2.2.2.2.2.1, .int b4.2.2.2.2.2.2.2.2.2.2.2.2.2.2.1, .int b4.2.2.2.2.2.2.2.2.2.2.2.2.2.2.2.1, .ref q8, .int b4.2.2.2.2.2.2.2.2.2.2.2.2.2.2.2.2.2])), (q1, .inl (G.2.2.1, 946, .inl b4.2.1)), (q2, .inl (G.2.2.1, 5676, .inl b4.2.2.1)), (q3, .inl (G.2.2.1, 60, .inl b4.2.2.2.2.1)), (q4, .inl (G.2.2.1, 201, .inl b4.2.2.2.2.2.2.2.1)), (q5, .inl (G.2.2.1, 201, .inl b4.2.2.2.2.2.2.2.2.2.1)), (q6, .inl (G.2.2.1, 201, .inl b4.2.2.2.2.2.2.2.2.2.2.1)), (q7, .inl (G.2.2.1, 201, .inl b4.2.2.2.2.2.2.2.2.2.2.2.1)), (q8, .inl (G.2.2.1, 201, .inl b4.2.2.2.2.2.2.2.2.2.2.2.2.2.2.2.2.1))]) X (zg_runV X (zc_X8_refused G q0 q1 q2 q3 q4 q5 q6 q7 q8 (w0, w1, w2, w3, w4, w5, w6, w7, w8, w9, w10, w11, w12, w13, w14, w15, w16) z1 fu b4 hb4) gX8_receivedCode_X8_refused rfl zh_X8_refused ⟨rfl, rfl⟩ ⟨Nat.le_of_ble_eq_true rfl, Nat.le_of_ble_eq_true rfl⟩ rfl rfl rfl (Nat.le_of_ble_eq_true rfl) ⟨Nat.le_of_ble_eq_true rfl, Nat.le_of_ble_eq_true rfl⟩ [0, 1, 2, 3, 4, 5, 6, 7, 8] (by decide) rfl rfl dX8_receivedCode_24) rfl rfl ?_
    refine zg_if_eq (tgt := 32) X dX8_receivedCode_27 (by decide) (fun c5 => ?_) (fun c5 => ?_)
    · have hf := pl_t c5 hf
      refine zg_aload_n X dX8_receivedCode_32 rfl 0 rfl ?_
      refine zg_get (C := RX8) (T := TX8) (N := 17) X 0 0 hiX8 rfl rfl (by decide) hw0 rfl dX8_receivedCode_33 ?_
      refine zg_sipush (v := 202) X dX8_receivedCode_36 (by decide) ?_
      refine zg_iload_n X dX8_receivedCode_39 rfl 1 rfl ?_
      refine zg_iadd X dX8_receivedCode_40 ?_
      obtain ⟨x6, ex6, hf⟩ := pl_l hf
      refine zg_topi ex6 ?_
      obtain ⟨hin, hf⟩ := pl_in hf
      refine zg_iald X 1 rfl hin dX8_receivedCode_41 ?_
      obtain ⟨x7, ex7, hf⟩ := pl_l hf
      refine zg_topi ex7 ?_
      have hf := Option.some.inj hf
      subst hf
      exact zg_iret X hF rfl rfl () rfl rfl (Nat.le_of_ble_eq_true rfl) (Nat.le_of_ble_eq_true rfl) dX8_receivedCode_42
    · have hf := pl_f c5 hf
      refine zg_iconst (v := 0) X dX8_receivedCode_30 (by decide) ?_
      have hf := Option.some.inj hf
      subst hf
      exact zg_iret X hF rfl rfl () rfl rfl (Nat.le_of_ble_eq_true rfl) (Nat.le_of_ble_eq_true rfl) dX8_receivedCode_31
  unfold zf_X8_receivedCode at hf
  refine zg_aload_n X dX8_receivedCode_0 rfl 0 rfl ?_
  refine zg_iload_n X dX8_receivedCode_1 rfl 1 rfl ?_
  refine zg_iconst (v := 0) X dX8_receivedCode_2 (by decide) ?_
  refine zg_aload_n X dX8_receivedCode_3 rfl 0 rfl ?_
  refine zg_get (C := RX8) (T := TX8) (N := 17) X 0 0 hiX8 rfl rfl (by decide) hw0 rfl dX8_receivedCode_4 ?_
  refine zg_sipush (v := 201) X dX8_receivedCode_7 (by decide) ?_
  refine zg_iald X 1 rfl (by unfold vp_in; decide) dX8_receivedCode_10 ?_
  obtain ⟨x1, ex1, hf⟩ := pl_l hf
  refine zg_topi ex1 ?_
  refine zg_iconst (v := 1) X dX8_receivedCode_11 (by decide) ?_
  refine zg_isub X dX8_receivedCode_12 ?_
  obtain ⟨b2, hb2, hf⟩ := pl_b hf
  refine zg_cP1 X (zg_runS X (zc_X8_in G a1 0 (x1 - (1 : Int32)) fu b2 hb2) gX8_receivedCode_X8_in rfl zh_X8_in.2 ⟨rfl, rfl⟩ ⟨Nat.le_of_ble_eq_true rfl, Nat.le_of_ble_eq_true rfl⟩ rfl (Nat.le_of_ble_eq_true rfl) ⟨Nat.le_of_ble_eq_true rfl, Nat.le_of_ble_eq_true rfl⟩ [] (by decide) rfl rfl dX8_receivedCode_13) rfl ?_
  refine zg_if_eq (tgt := 23) X dX8_receivedCode_16 (by decide) (fun c3 => ?_) (fun c3 => ?_)
  · have hf := pl_t c3 hf
    refine zg_iconst (v := 1) X dX8_receivedCode_23 (by decide) ?_
    exact hb24 a1 1 v0.1 v0.2.1 v0.2.2.1 v0.2.2.2.1 v0.2.2.2.2.1 v0.2.2.2.2.2.1 v0.2.2.2.2.2.2.1 v0.2.2.2.2.2.2.2.1 v0.2.2.2.2.2.2.2.2.1 v0.2.2.2.2.2.2.2.2.2.1 v0.2.2.2.2.2.2.2.2.2.2.1 v0.2.2.2.2.2.2.2.2.2.2.2.1 v0.2.2.2.2.2.2.2.2.2.2.2.2.1 v0.2.2.2.2.2.2.2.2.2.2.2.2.2.1 v0.2.2.2.2.2.2.2.2.2.2.2.2.2.2.1 v0.2.2.2.2.2.2.2.2.2.2.2.2.2.2.2.1 v0.2.2.2.2.2.2.2.2.2.2.2.2.2.2.2.2 hf
  · have hf := pl_f c3 hf
    refine zg_iconst (v := 0) X dX8_receivedCode_19 (by decide) ?_
    refine zg_goto (tgt := 24) X dX8_receivedCode_20 (by decide) ?_
    exact hb24 a1 0 v0.1 v0.2.1 v0.2.2.1 v0.2.2.2.1 v0.2.2.2.2.1 v0.2.2.2.2.2.1 v0.2.2.2.2.2.2.1 v0.2.2.2.2.2.2.2.1 v0.2.2.2.2.2.2.2.2.1 v0.2.2.2.2.2.2.2.2.2.1 v0.2.2.2.2.2.2.2.2.2.2.1 v0.2.2.2.2.2.2.2.2.2.2.2.1 v0.2.2.2.2.2.2.2.2.2.2.2.2.1 v0.2.2.2.2.2.2.2.2.2.2.2.2.2.1 v0.2.2.2.2.2.2.2.2.2.2.2.2.2.2.1 v0.2.2.2.2.2.2.2.2.2.2.2.2.2.2.2.1 v0.2.2.2.2.2.2.2.2.2.2.2.2.2.2.2.2 hf
theorem zh_X8_senderShift : yX8_senderShift.cls = RX8 ∧ yX8_senderShift.cls ≠ "java/lang/invoke/MethodHandle" ∧ yX8_senderShift.cls ≠ "java/lang/invoke/VarHandle" ∧ (parseMethodDescriptor yX8_senderShift.desc).map (fun d => d.parameters.length) = some 0 := by decide +kernel
set_option maxHeartbeats 8000000 in
set_option maxRecDepth 100000 in
theorem zc_X8_senderShift (G : zgG) (q0 q1 q2 q3 q4 q5 q6 q7 q8 : Nat) (v0 : zModel) (fu : Nat) (res : (Int32 × zModel)) (hf : zf_X8_senderShift fu v0 = some res) : zgCt G yX8_senderShift wsX8_senderShift ({ frames := 0, cells := 0, slots := 0, locals := 0 } : Room) [.ref q0] [(q0, .inr (7, [.ref q1, .ref q2, .int v0.2.2.1, .ref q3, .int v0.2.2.2.2.1, .int v0.2.2.2.2.2.1, .ref q4, .int v0.2.2.2.2.2.2.2.1, .ref q5, .ref q6, .ref q7, .int v0.2.2.2.2.2.2.2.2.2.2.2.1, .int v0.2.2.2.2.2.2.2.2.2.2.2.2.1, .int v0.2.2.2.2.2.2.2.2.2.2.2.2.2.1, .int v0.2.2.2.2.2.2.2.2.2.2.2.2.2.2.1, .ref q8, .int v0.2.2.2.2.2.2.2.2.2.2.2.2.2.2.2.2])), (q1, .inl (G.2.2.1, 946, .inl v0.1)), (q2, .inl (G.2.2.1, 5676, .inl v0.2.1)), (q3, .inl (G.2.2.1, 60, .inl v0.2.2.2.1)), (q4, .inl (G.2.2.1, 201, .inl v0.2.2.2.2.2.2.1)), (q5, .inl (G.2.2.1, 201, .inl v0.2.2.2.2.2.2.2.2.1)), (q6, .inl (G.2.2.1, 201, .inl v0.2.2.2.2.2.2.2.2.2.1)), (q7, .inl (G.2.2.1, 201, .inl v0.2.2.2.2.2.2.2.2.2.2.1)), (q8, .inl (G.2.2.1, 201, .inl v0.2.2.2.2.2.2.2.2.2.2.2.2.2.2.2.1))] (fun _ : Unit => some (.int res.1)) (fun _ => [(q0, .inr (7, [.ref q1, .ref q2, .int res.2.2.2.1, .ref q3, .int res.2.2.2.2.2.1, .int res.2.2.2.2.2.2.1, .ref q4, .int res.2.2.2.2.2.2.2.2.1, .ref q5, .ref q6, .ref q7, .int res.2.2.2.2.2.2.2.2.2.2.2.2.1, .int res.2.2.2.2.2.2.2.2.2.2.2.2.2.1, .int res.2.2.2.2.2.2.2.2.2.2.2.2.2.2.1, .int res.2.2.2.2.2.2.2.2.2.2.2.2.2.2.2.1, .ref q8, .int res.2.2.2.2.2.2.2.2.2.2.2.2.2.2.2.2.2])), (q1, .inl (G.2.2.1, 946, .inl res.2.1)), (q2, .inl (G.2.2.1, 5676, .inl res.2.2.1)), (q3, .inl (G.2.2.1, 60, .inl res.2.2.2.2.1)), (q4, .inl (G.2.2.1, 201, .inl res.2.2.2.2.2.2.2.1)), (q5, .inl (G.2.2.1, 201, .inl res.2.2.2.2.2.2.2.2.2.1)), (q6, .inl (G.2.2.1, 201, .inl res.2.2.2.2.2.2.2.2.2.2.1)), (q7, .inl (G.2.2.1, 201, .inl res.2.2.2.2.2.2.2.2.2.2.2.1)), (q8, .inl (G.2.2.1, 201, .inl res.2.2.2.2.2.2.2.2.2.2.2.2.2.2.2.2.1))]) 0 0 := by
  have hw0 : Cond.fieldLink RX8 38 "TelexReceiverModel" "thrown" "I" ∈ wsX8_senderShift := by decide +kernel
  have hw1 : Cond.fieldLink RX8 7 "TelexReceiverModel" "s" "[I" ∈ wsX8_senderShift := by decide +kernel
  have hiX8 : ∀ w ∈ u_ws RX8 TX8 17, w ∈ wsX8_senderShift := by decide +kernel
  refine zg_of (own := RX8) (cc := cX8_senderShift) (nL := 1) (ret := (some .int)) (by decide +kernel) rfl rfl (Nat.le_of_ble_eq_true rfl) (fun Z X hF => ?_)
  show zgGd G Z _ 0 0 1 _ 0 [(0, .ref q0)] []
  unfold zf_X8_senderShift at hf
  refine zg_aload_n X dX8_senderShift_0 rfl 0 rfl ?_
  refine zg_iconst (v := 0) X dX8_senderShift_1 (by decide) ?_
  refine zg_put (C := RX8) (T := TX8) (N := 17) (ty := .int) (ws' := [(q0, .inr (7, [.ref q1, .ref q2, .int v0.2.2.1, .ref q3, .int v0.2.2.2.2.1, .int 0, .ref q4, .int v0.2.2.2.2.2.2.2.1, .ref q5, .ref q6, .ref q7, .int v0.2.2.2.2.2.2.2.2.2.2.2.1, .int v0.2.2.2.2.2.2.2.2.2.2.2.2.1, .int v0.2.2.2.2.2.2.2.2.2.2.2.2.2.1, .int v0.2.2.2.2.2.2.2.2.2.2.2.2.2.2.1, .ref q8, .int v0.2.2.2.2.2.2.2.2.2.2.2.2.2.2.2.2])), (q1, .inl (G.2.2.1, 946, .inl v0.1)), (q2, .inl (G.2.2.1, 5676, .inl v0.2.1)), (q3, .inl (G.2.2.1, 60, .inl v0.2.2.2.1)), (q4, .inl (G.2.2.1, 201, .inl v0.2.2.2.2.2.2.1)), (q5, .inl (G.2.2.1, 201, .inl v0.2.2.2.2.2.2.2.2.1)), (q6, .inl (G.2.2.1, 201, .inl v0.2.2.2.2.2.2.2.2.2.1)), (q7, .inl (G.2.2.1, 201, .inl v0.2.2.2.2.2.2.2.2.2.2.1)), (q8, .inl (G.2.2.1, 201, .inl v0.2.2.2.2.2.2.2.2.2.2.2.2.2.2.2.1))]) X 0 5 hiX8 tyX8 tyX8_ok nmX8 rfl rfl (by decide) hw0 rfl (by decide +kernel) rfl rfl (Nat.le_of_ble_eq_true rfl) rfl dX8_senderShift_2 ?_
  refine zg_aload_n X dX8_senderShift_5 rfl 0 rfl ?_
  refine zg_get (C := RX8) (T := TX8) (N := 17) X 0 0 hiX8 rfl rfl (by decide) hw1 rfl dX8_senderShift_6 ?_
  refine zg_sipush (v := 603) X dX8_senderShift_9 (by decide) ?_
  refine zg_iald X 1 rfl (by unfold vp_in; decide) dX8_senderShift_12 ?_
  obtain ⟨x1, ex1, hf⟩ := pl_l hf
  refine zg_topi ex1 ?_
  have hf := Option.some.inj hf
  subst hf
  exact zg_iret X hF rfl rfl () rfl rfl (Nat.le_of_ble_eq_true rfl) (Nat.le_of_ble_eq_true rfl) dX8_senderShift_13
theorem zh_X8_faulty : yX8_faulty.cls = RX8 ∧ yX8_faulty.cls ≠ "java/lang/invoke/MethodHandle" ∧ yX8_faulty.cls ≠ "java/lang/invoke/VarHandle" ∧ (parseMethodDescriptor yX8_faulty.desc).map (fun d => d.parameters.length) = some 0 := by decide +kernel
set_option maxHeartbeats 8000000 in
set_option maxRecDepth 100000 in
theorem zc_X8_faulty (G : zgG) (q0 q1 q2 q3 q4 q5 q6 q7 q8 : Nat) (v0 : zModel) (fu : Nat) (res : Int32) (hf : zf_X8_faulty fu v0 = some res) : zgCt G yX8_faulty wsX8_faulty ({ frames := 0, cells := 0, slots := 0, locals := 0 } : Room) [.ref q0] [(q0, .inr (7, [.ref q1, .ref q2, .int v0.2.2.1, .ref q3, .int v0.2.2.2.2.1, .int v0.2.2.2.2.2.1, .ref q4, .int v0.2.2.2.2.2.2.2.1, .ref q5, .ref q6, .ref q7, .int v0.2.2.2.2.2.2.2.2.2.2.2.1, .int v0.2.2.2.2.2.2.2.2.2.2.2.2.1, .int v0.2.2.2.2.2.2.2.2.2.2.2.2.2.1, .int v0.2.2.2.2.2.2.2.2.2.2.2.2.2.2.1, .ref q8, .int v0.2.2.2.2.2.2.2.2.2.2.2.2.2.2.2.2])), (q1, .inl (G.2.2.1, 946, .inl v0.1)), (q2, .inl (G.2.2.1, 5676, .inl v0.2.1)), (q3, .inl (G.2.2.1, 60, .inl v0.2.2.2.1)), (q4, .inl (G.2.2.1, 201, .inl v0.2.2.2.2.2.2.1)), (q5, .inl (G.2.2.1, 201, .inl v0.2.2.2.2.2.2.2.2.1)), (q6, .inl (G.2.2.1, 201, .inl v0.2.2.2.2.2.2.2.2.2.1)), (q7, .inl (G.2.2.1, 201, .inl v0.2.2.2.2.2.2.2.2.2.2.1)), (q8, .inl (G.2.2.1, 201, .inl v0.2.2.2.2.2.2.2.2.2.2.2.2.2.2.2.1))] (fun _ : Unit => some (.int res)) (fun _ => [(q0, .inr (7, [.ref q1, .ref q2, .int v0.2.2.1, .ref q3, .int v0.2.2.2.2.1, .int v0.2.2.2.2.2.1, .ref q4, .int v0.2.2.2.2.2.2.2.1, .ref q5, .ref q6, .ref q7, .int v0.2.2.2.2.2.2.2.2.2.2.2.1, .int v0.2.2.2.2.2.2.2.2.2.2.2.2.1, .int v0.2.2.2.2.2.2.2.2.2.2.2.2.2.1, .int v0.2.2.2.2.2.2.2.2.2.2.2.2.2.2.1, .ref q8, .int v0.2.2.2.2.2.2.2.2.2.2.2.2.2.2.2.2])), (q1, .inl (G.2.2.1, 946, .inl v0.1)), (q2, .inl (G.2.2.1, 5676, .inl v0.2.1)), (q3, .inl (G.2.2.1, 60, .inl v0.2.2.2.1)), (q4, .inl (G.2.2.1, 201, .inl v0.2.2.2.2.2.2.1)), (q5, .inl (G.2.2.1, 201, .inl v0.2.2.2.2.2.2.2.2.1)), (q6, .inl (G.2.2.1, 201, .inl v0.2.2.2.2.2.2.2.2.2.1)), (q7, .inl (G.2.2.1, 201, .inl v0.2.2.2.2.2.2.2.2.2.2.1)), (q8, .inl (G.2.2.1, 201, .inl v0.2.2.2.2.2.2.2.2.2.2.2.2.2.2.2.1))]) 0 0 := by
  have hw0 : Cond.fieldLink RX8 7 "TelexReceiverModel" "s" "[I" ∈ wsX8_faulty := by decide +kernel
  have hiX8 : ∀ w ∈ u_ws RX8 TX8 17, w ∈ wsX8_faulty := by decide +kernel
  refine zg_of (own := RX8) (cc := cX8_faulty) (nL := 3) (ret := (some .int)) (by decide +kernel) rfl rfl (Nat.le_of_ble_eq_true rfl) (fun Z X hF => ?_)
  show zgGd G Z _ 0 0 3 _ 0 [(0, .ref q0)] []
  have hL4 : ∀ (n : Nat) (y1 : Int32) (y2 : Int32), zf_X8_faulty_L4 fu v0 n y1 y2 = some res → zgGd G Z ({ frames := 0, cells := 0, slots := 0, locals := 0 } : Room) 0 0 3 [(q0, .inr (7, [.ref q1, .ref q2, .int v0.2.2.1, .ref q3, .int v0.2.2.2.2.1, .int v0.2.2.2.2.2.1, .ref q4, .int v0.2.2.2.2.2.2.2.1, .ref q5, .ref q6, .ref q7, .int v0.2.2.2.2.2.2.2.2.2.2.2.1, .int v0.2.2.2.2.2.2.2.2.2.2.2.2.1, .int v0.2.2.2.2.2.2.2.2.2.2.2.2.2.1, .int v0.2.2.2.2.2.2.2.2.2.2.2.2.2.2.1, .ref q8, .int v0.2.2.2.2.2.2.2.2.2.2.2.2.2.2.2.2])), (q1, .inl (G.2.2.1, 946, .inl v0.1)), (q2, .inl (G.2.2.1, 5676, .inl v0.2.1)), (q3, .inl (G.2.2.1, 60, .inl v0.2.2.2.1)), (q4, .inl (G.2.2.1, 201, .inl v0.2.2.2.2.2.2.1)), (q5, .inl (G.2.2.1, 201, .inl v0.2.2.2.2.2.2.2.2.1)), (q6, .inl (G.2.2.1, 201, .inl v0.2.2.2.2.2.2.2.2.2.1)), (q7, .inl (G.2.2.1, 201, .inl v0.2.2.2.2.2.2.2.2.2.2.1)), (q8, .inl (G.2.2.1, 201, .inl v0.2.2.2.2.2.2.2.2.2.2.2.2.2.2.2.1))] 4 [(0, .ref q0), (1, .int y1), (2, .int y2)] [] := by
    intro n
    induction n with
    | zero =>
      intro y1 y2 hf
      rw [zf_X8_faulty_L4] at hf
      cases hf
    | succ n4 ih4 =>
      have hb30 : ∀ (y2 : Int32) (z0 : Int32) (z1 : Int32), zf_X8_faulty_b30 fu v0 (zf_X8_faulty_L4 fu v0 n4) y2 z0 z1 = some res → zgGd G Z ({ frames := 0, cells := 0, slots := 0, locals := 0 } : Room) 0 0 3 [(q0, .inr (7, [.ref q1, .ref q2, .int v0.2.2.1, .ref q3, .int v0.2.2.2.2.1, .int v0.2.2.2.2.2.1, .ref q4, .int v0.2.2.2.2.2.2.2.1, .ref q5, .ref q6, .ref q7, .int v0.2.2.2.2.2.2.2.2.2.2.2.1, .int v0.2.2.2.2.2.2.2.2.2.2.2.2.1, .int v0.2.2.2.2.2.2.2.2.2.2.2.2.2.1, .int v0.2.2.2.2.2.2.2.2.2.2.2.2.2.2.1, .ref q8, .int v0.2.2.2.2.2.2.2.2.2.2.2.2.2.2.2.2])), (q1, .inl (G.2.2.1, 946, .inl v0.1)), (q2, .inl (G.2.2.1, 5676, .inl v0.2.1)), (q3, .inl (G.2.2.1, 60, .inl v0.2.2.2.1)), (q4, .inl (G.2.2.1, 201, .inl v0.2.2.2.2.2.2.1)), (q5, .inl (G.2.2.1, 201, .inl v0.2.2.2.2.2.2.2.2.1)), (q6, .inl (G.2.2.1, 201, .inl v0.2.2.2.2.2.2.2.2.2.1)), (q7, .inl (G.2.2.1, 201, .inl v0.2.2.2.2.2.2.2.2.2.2.1)), (q8, .inl (G.2.2.1, 201, .inl v0.2.2.2.2.2.2.2.2.2.2.2.2.2.2.2.1))] 30 [(0, .ref q0), (2, .int y2)] [.int z1, .int z0] := by
        intro y2 z0 z1 hf
        unfold zf_X8_faulty_b30 at hf
        refine zg_iadd X dX8_faulty_30 ?_
        obtain ⟨x5, ex5, hf⟩ := pl_l hf
        refine zg_topi ex5 ?_
        refine zg_istore_n (L' := [(1, .int x5), (0, .ref q0), (2, .int y2)]) X dX8_faulty_31 rfl (by decide) rfl ?_
        obtain ⟨x6, ex6, hf⟩ := pl_l hf
        refine zg_iinc (v := x6) (L' := [(2, .int x6), (1, .int x5), (0, .ref q0)]) X dX8_faulty_32 (j := 2) rfl (by rw [ex6]; rfl) (by decide) rfl ?_
        refine zg_goto (tgt := 4) X dX8_faulty_35 (by decide) ?_
        refine zg_loc [2, 1, 0] rfl ?_
        exact ih4 x5 x6 hf
      intro y1 y2 hf
      rw [zf_X8_faulty_L4] at hf
      refine zg_iload_n X dX8_faulty_4 rfl 2 rfl ?_
      refine zg_sipush (v := 200) X dX8_faulty_5 (by decide) ?_
      refine zg_icmp_ge (tgt := 38) X dX8_faulty_8 (by decide) (fun c1 => ?_) (fun c1 => ?_)
      · have hf := pl_t c1 hf
        refine zg_iload_n X dX8_faulty_38 rfl 1 rfl ?_
        have hf := Option.some.inj hf
        subst hf
        exact zg_iret X hF rfl rfl () rfl rfl (Nat.le_of_ble_eq_true rfl) (Nat.le_of_ble_eq_true rfl) dX8_faulty_39
      · have hf := pl_f c1 hf
        refine zg_iload_n X dX8_faulty_11 rfl 1 rfl ?_
        refine zg_aload_n X dX8_faulty_12 rfl 0 rfl ?_
        refine zg_get (C := RX8) (T := TX8) (N := 17) X 0 0 hiX8 rfl rfl (by decide) hw0 rfl dX8_faulty_13 ?_
        refine zg_sipush (v := 605) X dX8_faulty_16 (by decide) ?_
        refine zg_iload_n X dX8_faulty_19 rfl 2 rfl ?_
        refine zg_iadd X dX8_faulty_20 ?_
        obtain ⟨x2, ex2, hf⟩ := pl_l hf
        refine zg_topi ex2 ?_
        obtain ⟨hin, hf⟩ := pl_in hf
        refine zg_iald X 1 rfl hin dX8_faulty_21 ?_
        obtain ⟨x3, ex3, hf⟩ := pl_l hf
        refine zg_topi ex3 ?_
        refine zg_if_le (tgt := 29) X dX8_faulty_22 (by decide) (fun c4 => ?_) (fun c4 => ?_)
        · have hf := pl_t c4 hf
          refine zg_iconst (v := 0) X dX8_faulty_29 (by decide) ?_
          refine zg_loc [0, 2] rfl ?_
          exact hb30 y2 y1 0 hf
        · have hf := pl_f c4 hf
          refine zg_iconst (v := 1) X dX8_faulty_25 (by decide) ?_
          refine zg_goto (tgt := 30) X dX8_faulty_26 (by decide) ?_
          refine zg_loc [0, 2] rfl ?_
          exact hb30 y2 y1 1 hf
  unfold zf_X8_faulty at hf
  refine zg_iconst (v := 0) X dX8_faulty_0 (by decide) ?_
  refine zg_istore_n (L' := [(1, .int 0), (0, .ref q0)]) X dX8_faulty_1 rfl (by decide) rfl ?_
  refine zg_iconst (v := 0) X dX8_faulty_2 (by decide) ?_
  refine zg_istore_n (L' := [(2, .int 0), (1, .int 0), (0, .ref q0)]) X dX8_faulty_3 rfl (by decide) rfl ?_
  refine zg_loc [2, 1, 0] rfl ?_
  exact hL4 fu 0 0 hf
theorem zh_X8_faults : yX8_faults.cls = RX8 ∧ yX8_faults.cls ≠ "java/lang/invoke/MethodHandle" ∧ yX8_faults.cls ≠ "java/lang/invoke/VarHandle" ∧ (parseMethodDescriptor yX8_faults.desc).map (fun d => d.parameters.length) = some 0 := by decide +kernel
set_option maxHeartbeats 8000000 in
set_option maxRecDepth 100000 in
theorem zc_X8_faults (G : zgG) (q0 q1 q2 q3 q4 q5 q6 q7 q8 : Nat) (v0 : zModel) (fu : Nat) (res : (Int32 × zModel)) (hf : zf_X8_faults fu v0 = some res) : zgCt G yX8_faults wsX8_faults ({ frames := 1, cells := 0, slots := 0, locals := 22 } : Room) [.ref q0] [(q0, .inr (7, [.ref q1, .ref q2, .int v0.2.2.1, .ref q3, .int v0.2.2.2.2.1, .int v0.2.2.2.2.2.1, .ref q4, .int v0.2.2.2.2.2.2.2.1, .ref q5, .ref q6, .ref q7, .int v0.2.2.2.2.2.2.2.2.2.2.2.1, .int v0.2.2.2.2.2.2.2.2.2.2.2.2.1, .int v0.2.2.2.2.2.2.2.2.2.2.2.2.2.1, .int v0.2.2.2.2.2.2.2.2.2.2.2.2.2.2.1, .ref q8, .int v0.2.2.2.2.2.2.2.2.2.2.2.2.2.2.2.2])), (q1, .inl (G.2.2.1, 946, .inl v0.1)), (q2, .inl (G.2.2.1, 5676, .inl v0.2.1)), (q3, .inl (G.2.2.1, 60, .inl v0.2.2.2.1)), (q4, .inl (G.2.2.1, 201, .inl v0.2.2.2.2.2.2.1)), (q5, .inl (G.2.2.1, 201, .inl v0.2.2.2.2.2.2.2.2.1)), (q6, .inl (G.2.2.1, 201, .inl v0.2.2.2.2.2.2.2.2.2.1)), (q7, .inl (G.2.2.1, 201, .inl v0.2.2.2.2.2.2.2.2.2.2.1)), (q8, .inl (G.2.2.1, 201, .inl v0.2.2.2.2.2.2.2.2.2.2.2.2.2.2.2.1))] (fun _ : Unit => some (.int res.1)) (fun _ => [(q0, .inr (7, [.ref q1, .ref q2, .int res.2.2.2.1, .ref q3, .int res.2.2.2.2.2.1, .int res.2.2.2.2.2.2.1, .ref q4, .int res.2.2.2.2.2.2.2.2.1, .ref q5, .ref q6, .ref q7, .int res.2.2.2.2.2.2.2.2.2.2.2.2.1, .int res.2.2.2.2.2.2.2.2.2.2.2.2.2.1, .int res.2.2.2.2.2.2.2.2.2.2.2.2.2.2.1, .int res.2.2.2.2.2.2.2.2.2.2.2.2.2.2.2.1, .ref q8, .int res.2.2.2.2.2.2.2.2.2.2.2.2.2.2.2.2.2])), (q1, .inl (G.2.2.1, 946, .inl res.2.1)), (q2, .inl (G.2.2.1, 5676, .inl res.2.2.1)), (q3, .inl (G.2.2.1, 60, .inl res.2.2.2.2.1)), (q4, .inl (G.2.2.1, 201, .inl res.2.2.2.2.2.2.2.1)), (q5, .inl (G.2.2.1, 201, .inl res.2.2.2.2.2.2.2.2.2.1)), (q6, .inl (G.2.2.1, 201, .inl res.2.2.2.2.2.2.2.2.2.2.1)), (q7, .inl (G.2.2.1, 201, .inl res.2.2.2.2.2.2.2.2.2.2.2.1)), (q8, .inl (G.2.2.1, 201, .inl res.2.2.2.2.2.2.2.2.2.2.2.2.2.2.2.2.1))]) 0 0 := by
  have hw0 : Cond.fieldLink RX8 38 "TelexReceiverModel" "thrown" "I" ∈ wsX8_faults := by decide +kernel
  have hiX8 : ∀ w ∈ u_ws RX8 TX8 17, w ∈ wsX8_faults := by decide +kernel
  refine zg_of (own := RX8) (cc := cX8_faults) (nL := 1) (ret := (some .int)) (by decide +kernel) rfl rfl (Nat.le_of_ble_eq_true rfl) (fun Z X hF => ?_)
  show zgGd G Z _ 0 0 1 _ 0 [(0, .ref q0)] []
  unfold zf_X8_faults at hf
  refine zg_aload_n X dX8_faults_0 rfl 0 rfl ?_
  refine zg_iconst (v := 0) X dX8_faults_1 (by decide) ?_
  refine zg_put (C := RX8) (T := TX8) (N := 17) (ty := .int) (ws' := [(q0, .inr (7, [.ref q1, .ref q2, .int v0.2.2.1, .ref q3, .int v0.2.2.2.2.1, .int 0, .ref q4, .int v0.2.2.2.2.2.2.2.1, .ref q5, .ref q6, .ref q7, .int v0.2.2.2.2.2.2.2.2.2.2.2.1, .int v0.2.2.2.2.2.2.2.2.2.2.2.2.1, .int v0.2.2.2.2.2.2.2.2.2.2.2.2.2.1, .int v0.2.2.2.2.2.2.2.2.2.2.2.2.2.2.1, .ref q8, .int v0.2.2.2.2.2.2.2.2.2.2.2.2.2.2.2.2])), (q1, .inl (G.2.2.1, 946, .inl v0.1)), (q2, .inl (G.2.2.1, 5676, .inl v0.2.1)), (q3, .inl (G.2.2.1, 60, .inl v0.2.2.2.1)), (q4, .inl (G.2.2.1, 201, .inl v0.2.2.2.2.2.2.1)), (q5, .inl (G.2.2.1, 201, .inl v0.2.2.2.2.2.2.2.2.1)), (q6, .inl (G.2.2.1, 201, .inl v0.2.2.2.2.2.2.2.2.2.1)), (q7, .inl (G.2.2.1, 201, .inl v0.2.2.2.2.2.2.2.2.2.2.1)), (q8, .inl (G.2.2.1, 201, .inl v0.2.2.2.2.2.2.2.2.2.2.2.2.2.2.2.1))]) X 0 5 hiX8 tyX8 tyX8_ok nmX8 rfl rfl (by decide) hw0 rfl (by decide +kernel) rfl rfl (Nat.le_of_ble_eq_true rfl) rfl dX8_faults_2 ?_
  refine zg_aload_n X dX8_faults_5 rfl 0 rfl ?_
  obtain ⟨b1, hb1, hf⟩ := pl_b hf
  refine zg_cP1 X (zg_runV X (zc_X8_faulty G q0 q1 q2 q3 q4 q5 q6 q7 q8 (v0.1, v0.2.1, v0.2.2.1, v0.2.2.2.1, v0.2.2.2.2.1, 0, v0.2.2.2.2.2.2.1, v0.2.2.2.2.2.2.2.1, v0.2.2.2.2.2.2.2.2.1, v0.2.2.2.2.2.2.2.2.2.1, v0.2.2.2.2.2.2.2.2.2.2.1, v0.2.2.2.2.2.2.2.2.2.2.2.1, v0.2.2.2.2.2.2.2.2.2.2.2.2.1, v0.2.2.2.2.2.2.2.2.2.2.2.2.2.1, v0.2.2.2.2.2.2.2.2.2.2.2.2.2.2.1, v0.2.2.2.2.2.2.2.2.2.2.2.2.2.2.2.1, v0.2.2.2.2.2.2.2.2.2.2.2.2.2.2.2.2) fu b1 hb1) gX8_faults_X8_faulty rfl zh_X8_faulty ⟨rfl, rfl⟩ ⟨Nat.le_of_ble_eq_true rfl, Nat.le_of_ble_eq_true rfl⟩ rfl rfl rfl (Nat.le_of_ble_eq_true rfl) ⟨Nat.le_of_ble_eq_true rfl, Nat.le_of_ble_eq_true rfl⟩ [0, 1, 2, 3, 4, 5, 6, 7, 8] (by decide) rfl rfl dX8_faults_6) rfl ?_
  have hf := Option.some.inj hf
  subst hf
  exact zg_iret X hF rfl rfl () rfl rfl (Nat.le_of_ble_eq_true rfl) (Nat.le_of_ble_eq_true rfl) dX8_faults_9
theorem zh_X8_isWord : yX8_isWord.cls = RX8 ∧ yX8_isWord.cls ≠ "java/lang/invoke/MethodHandle" ∧ yX8_isWord.cls ≠ "java/lang/invoke/VarHandle" ∧ (parseMethodDescriptor yX8_isWord.desc).map (fun d => d.parameters.length) = some 3 := by decide +kernel
set_option maxHeartbeats 8000000 in
set_option maxRecDepth 100000 in
theorem zc_X8_isWord (G : zgG) (q0 q1 q2 q3 q4 q5 q6 q7 q8 : Nat) (v0 : zModel) (a1 : Int32) (a2 : Int32) (a3 : Int32) (fu : Nat) (res : Int32) (hf : zf_X8_isWord fu v0 a1 a2 a3 = some res) : zgCt G yX8_isWord wsX8_isWord ({ frames := 0, cells := 0, slots := 0, locals := 0 } : Room) [.ref q0, .int a1, .int a2, .int a3] [(q0, .inr (7, [.ref q1, .ref q2, .int v0.2.2.1, .ref q3, .int v0.2.2.2.2.1, .int v0.2.2.2.2.2.1, .ref q4, .int v0.2.2.2.2.2.2.2.1, .ref q5, .ref q6, .ref q7, .int v0.2.2.2.2.2.2.2.2.2.2.2.1, .int v0.2.2.2.2.2.2.2.2.2.2.2.2.1, .int v0.2.2.2.2.2.2.2.2.2.2.2.2.2.1, .int v0.2.2.2.2.2.2.2.2.2.2.2.2.2.2.1, .ref q8, .int v0.2.2.2.2.2.2.2.2.2.2.2.2.2.2.2.2])), (q1, .inl (G.2.2.1, 946, .inl v0.1)), (q2, .inl (G.2.2.1, 5676, .inl v0.2.1)), (q3, .inl (G.2.2.1, 60, .inl v0.2.2.2.1)), (q4, .inl (G.2.2.1, 201, .inl v0.2.2.2.2.2.2.1)), (q5, .inl (G.2.2.1, 201, .inl v0.2.2.2.2.2.2.2.2.1)), (q6, .inl (G.2.2.1, 201, .inl v0.2.2.2.2.2.2.2.2.2.1)), (q7, .inl (G.2.2.1, 201, .inl v0.2.2.2.2.2.2.2.2.2.2.1)), (q8, .inl (G.2.2.1, 201, .inl v0.2.2.2.2.2.2.2.2.2.2.2.2.2.2.2.1))] (fun _ : Unit => some (.int res)) (fun _ => [(q0, .inr (7, [.ref q1, .ref q2, .int v0.2.2.1, .ref q3, .int v0.2.2.2.2.1, .int v0.2.2.2.2.2.1, .ref q4, .int v0.2.2.2.2.2.2.2.1, .ref q5, .ref q6, .ref q7, .int v0.2.2.2.2.2.2.2.2.2.2.2.1, .int v0.2.2.2.2.2.2.2.2.2.2.2.2.1, .int v0.2.2.2.2.2.2.2.2.2.2.2.2.2.1, .int v0.2.2.2.2.2.2.2.2.2.2.2.2.2.2.1, .ref q8, .int v0.2.2.2.2.2.2.2.2.2.2.2.2.2.2.2.2])), (q1, .inl (G.2.2.1, 946, .inl v0.1)), (q2, .inl (G.2.2.1, 5676, .inl v0.2.1)), (q3, .inl (G.2.2.1, 60, .inl v0.2.2.2.1)), (q4, .inl (G.2.2.1, 201, .inl v0.2.2.2.2.2.2.1)), (q5, .inl (G.2.2.1, 201, .inl v0.2.2.2.2.2.2.2.2.1)), (q6, .inl (G.2.2.1, 201, .inl v0.2.2.2.2.2.2.2.2.2.1)), (q7, .inl (G.2.2.1, 201, .inl v0.2.2.2.2.2.2.2.2.2.2.1)), (q8, .inl (G.2.2.1, 201, .inl v0.2.2.2.2.2.2.2.2.2.2.2.2.2.2.2.1))]) 0 0 := by
  have hw0 : Cond.fieldLink RX8 7 "TelexReceiverModel" "s" "[I" ∈ wsX8_isWord := by decide +kernel
  have hw1 : Cond.fieldLink RX8 31 "TelexReceiverModel" "codes" "[I" ∈ wsX8_isWord := by decide +kernel
  have hiX8 : ∀ w ∈ u_ws RX8 TX8 17, w ∈ wsX8_isWord := by decide +kernel
  refine zg_of (own := RX8) (cc := cX8_isWord) (nL := 6) (ret := (some .boolean)) (by decide +kernel) rfl rfl (Nat.le_of_ble_eq_true rfl) (fun Z X hF => ?_)
  show zgGd G Z _ 0 0 6 _ 0 [(0, .ref q0), (1, .int a1), (2, .int a2), (3, .int a3)] []
  have hL24 : ∀ (n : Nat) (y1 : Int32) (y2 : Int32) (y3 : Int32) (y4 : Int32) (y5 : Int32), zf_X8_isWord_L24 fu v0 n y1 y2 y3 y4 y5 = some res → zgGd G Z ({ frames := 0, cells := 0, slots := 0, locals := 0 } : Room) 0 0 6 [(q0, .inr (7, [.ref q1, .ref q2, .int v0.2.2.1, .ref q3, .int v0.2.2.2.2.1, .int v0.2.2.2.2.2.1, .ref q4, .int v0.2.2.2.2.2.2.2.1, .ref q5, .ref q6, .ref q7, .int v0.2.2.2.2.2.2.2.2.2.2.2.1, .int v0.2.2.2.2.2.2.2.2.2.2.2.2.1, .int v0.2.2.2.2.2.2.2.2.2.2.2.2.2.1, .int v0.2.2.2.2.2.2.2.2.2.2.2.2.2.2.1, .ref q8, .int v0.2.2.2.2.2.2.2.2.2.2.2.2.2.2.2.2])), (q1, .inl (G.2.2.1, 946, .inl v0.1)), (q2, .inl (G.2.2.1, 5676, .inl v0.2.1)), (q3, .inl (G.2.2.1, 60, .inl v0.2.2.2.1)), (q4, .inl (G.2.2.1, 201, .inl v0.2.2.2.2.2.2.1)), (q5, .inl (G.2.2.1, 201, .inl v0.2.2.2.2.2.2.2.2.1)), (q6, .inl (G.2.2.1, 201, .inl v0.2.2.2.2.2.2.2.2.2.1)), (q7, .inl (G.2.2.1, 201, .inl v0.2.2.2.2.2.2.2.2.2.2.1)), (q8, .inl (G.2.2.1, 201, .inl v0.2.2.2.2.2.2.2.2.2.2.2.2.2.2.2.1))] 24 [(0, .ref q0), (1, .int y1), (2, .int y2), (3, .int y3), (4, .int y4), (5, .int y5)] [] := by
    intro n
    induction n with
    | zero =>
      intro y1 y2 y3 y4 y5 hf
      rw [zf_X8_isWord_L24] at hf
      cases hf
    | succ n24 ih24 =>
      have hb68 : ∀ (y1 : Int32) (y2 : Int32) (y3 : Int32) (y5 : Int32) (z0 : Int32), zf_X8_isWord_b68 fu v0 (zf_X8_isWord_L24 fu v0 n24) y1 y2 y3 y5 z0 = some res → zgGd G Z ({ frames := 0, cells := 0, slots := 0, locals := 0 } : Room) 0 0 6 [(q0, .inr (7, [.ref q1, .ref q2, .int v0.2.2.1, .ref q3, .int v0.2.2.2.2.1, .int v0.2.2.2.2.2.1, .ref q4, .int v0.2.2.2.2.2.2.2.1, .ref q5, .ref q6, .ref q7, .int v0.2.2.2.2.2.2.2.2.2.2.2.1, .int v0.2.2.2.2.2.2.2.2.2.2.2.2.1, .int v0.2.2.2.2.2.2.2.2.2.2.2.2.2.1, .int v0.2.2.2.2.2.2.2.2.2.2.2.2.2.2.1, .ref q8, .int v0.2.2.2.2.2.2.2.2.2.2.2.2.2.2.2.2])), (q1, .inl (G.2.2.1, 946, .inl v0.1)), (q2, .inl (G.2.2.1, 5676, .inl v0.2.1)), (q3, .inl (G.2.2.1, 60, .inl v0.2.2.2.1)), (q4, .inl (G.2.2.1, 201, .inl v0.2.2.2.2.2.2.1)), (q5, .inl (G.2.2.1, 201, .inl v0.2.2.2.2.2.2.2.2.1)), (q6, .inl (G.2.2.1, 201, .inl v0.2.2.2.2.2.2.2.2.2.1)), (q7, .inl (G.2.2.1, 201, .inl v0.2.2.2.2.2.2.2.2.2.2.1)), (q8, .inl (G.2.2.1, 201, .inl v0.2.2.2.2.2.2.2.2.2.2.2.2.2.2.2.1))] 68 [(0, .ref q0), (1, .int y1), (2, .int y2), (3, .int y3), (5, .int y5)] [.int z0] := by
        intro y1 y2 y3 y5 z0 hf
        unfold zf_X8_isWord_b68 at hf
        refine zg_istore (L' := [(4, .int z0), (0, .ref q0), (1, .int y1), (2, .int y2), (3, .int y3), (5, .int y5)]) X dX8_isWord_68 (by decide) rfl ?_
        obtain ⟨x13, ex13, hf⟩ := pl_l hf
        refine zg_iinc (v := x13) (L' := [(5, .int x13), (4, .int z0), (0, .ref q0), (1, .int y1), (2, .int y2), (3, .int y3)]) X dX8_isWord_70 (j := 5) rfl (by rw [ex13]; rfl) (by decide) rfl ?_
        refine zg_goto (tgt := 24) X dX8_isWord_73 (by decide) ?_
        refine zg_loc [2, 3, 4, 5, 1, 0] rfl ?_
        exact ih24 y1 y2 y3 z0 x13 hf
      intro y1 y2 y3 y4 y5 hf
      rw [zf_X8_isWord_L24] at hf
      refine zg_iload X dX8_isWord_24 5 rfl ?_
      refine zg_iload_n X dX8_isWord_26 rfl 3 rfl ?_
      refine zg_icmp_ge (tgt := 76) X dX8_isWord_27 (by decide) (fun c4 => ?_) (fun c4 => ?_)
      · have hf := pl_t c4 hf
        refine zg_iload X dX8_isWord_76 4 rfl ?_
        obtain ⟨hb5, hf⟩ := pl_o hf
        have hf := Option.some.inj hf
        subst hf
        exact zg_iret X hF rfl (pl_nz hb5) () rfl rfl (Nat.le_of_ble_eq_true rfl) (Nat.le_of_ble_eq_true rfl) dX8_isWord_78
      · have hf := pl_f c4 hf
        refine zg_iload X dX8_isWord_30 4 rfl ?_
        refine zg_if_eq (tgt := 76) X dX8_isWord_32 (by decide) (fun c6 => ?_) (fun c6 => ?_)
        · have hf := pl_t c6 hf
          refine zg_iload X dX8_isWord_76 4 rfl ?_
          obtain ⟨hb7, hf⟩ := pl_o hf
          have hf := Option.some.inj hf
          subst hf
          exact zg_iret X hF rfl (pl_nz hb7) () rfl rfl (Nat.le_of_ble_eq_true rfl) (Nat.le_of_ble_eq_true rfl) dX8_isWord_78
        · have hf := pl_f c6 hf
          refine zg_aload_n X dX8_isWord_35 rfl 0 rfl ?_
          refine zg_get (C := RX8) (T := TX8) (N := 17) X 0 0 hiX8 rfl rfl (by decide) hw0 rfl dX8_isWord_36 ?_
          refine zg_sipush (v := 826) X dX8_isWord_39 (by decide) ?_
          refine zg_bipush (v := 6) X dX8_isWord_42 (by decide) ?_
          refine zg_iload_n X dX8_isWord_44 rfl 1 rfl ?_
          refine zg_imul X dX8_isWord_45 ?_
          refine zg_iadd X dX8_isWord_46 ?_
          refine zg_iload X dX8_isWord_47 5 rfl ?_
          refine zg_iadd X dX8_isWord_49 ?_
          obtain ⟨x8, ex8, hf⟩ := pl_l hf
          refine zg_topi ex8 ?_
          obtain ⟨hin, hf⟩ := pl_in hf
          refine zg_iald X 1 rfl hin dX8_isWord_50 ?_
          obtain ⟨x9, ex9, hf⟩ := pl_l hf
          refine zg_topi ex9 ?_
          refine zg_aload_n X dX8_isWord_51 rfl 0 rfl ?_
          refine zg_get (C := RX8) (T := TX8) (N := 17) X 0 15 hiX8 rfl rfl (by decide) hw1 rfl dX8_isWord_52 ?_
          refine zg_iload_n X dX8_isWord_55 rfl 2 rfl ?_
          refine zg_iload X dX8_isWord_56 5 rfl ?_
          refine zg_iadd X dX8_isWord_58 ?_
          obtain ⟨x10, ex10, hf⟩ := pl_l hf
          refine zg_topi ex10 ?_
          obtain ⟨hin, hf⟩ := pl_in hf
          refine zg_iald X 8 rfl hin dX8_isWord_59 ?_
          obtain ⟨x11, ex11, hf⟩ := pl_l hf
          refine zg_topi ex11 ?_
          refine zg_icmp_ne (tgt := 67) X dX8_isWord_60 (by decide) (fun c12 => ?_) (fun c12 => ?_)
          · have hf := pl_f c12 hf
            refine zg_iconst (v := 0) X dX8_isWord_67 (by decide) ?_
            refine zg_loc [0, 1, 2, 3, 5] rfl ?_
            exact hb68 y1 y2 y3 y5 0 hf
          · have hf := pl_t c12 hf
            refine zg_iconst (v := 1) X dX8_isWord_63 (by decide) ?_
            refine zg_goto (tgt := 68) X dX8_isWord_64 (by decide) ?_
            refine zg_loc [0, 1, 2, 3, 5] rfl ?_
            exact hb68 y1 y2 y3 y5 1 hf
  have hb19 : ∀ (y1 : Int32) (y2 : Int32) (y3 : Int32) (z0 : Int32), zf_X8_isWord_b19 fu v0 y1 y2 y3 z0 = some res → zgGd G Z ({ frames := 0, cells := 0, slots := 0, locals := 0 } : Room) 0 0 6 [(q0, .inr (7, [.ref q1, .ref q2, .int v0.2.2.1, .ref q3, .int v0.2.2.2.2.1, .int v0.2.2.2.2.2.1, .ref q4, .int v0.2.2.2.2.2.2.2.1, .ref q5, .ref q6, .ref q7, .int v0.2.2.2.2.2.2.2.2.2.2.2.1, .int v0.2.2.2.2.2.2.2.2.2.2.2.2.1, .int v0.2.2.2.2.2.2.2.2.2.2.2.2.2.1, .int v0.2.2.2.2.2.2.2.2.2.2.2.2.2.2.1, .ref q8, .int v0.2.2.2.2.2.2.2.2.2.2.2.2.2.2.2.2])), (q1, .inl (G.2.2.1, 946, .inl v0.1)), (q2, .inl (G.2.2.1, 5676, .inl v0.2.1)), (q3, .inl (G.2.2.1, 60, .inl v0.2.2.2.1)), (q4, .inl (G.2.2.1, 201, .inl v0.2.2.2.2.2.2.1)), (q5, .inl (G.2.2.1, 201, .inl v0.2.2.2.2.2.2.2.2.1)), (q6, .inl (G.2.2.1, 201, .inl v0.2.2.2.2.2.2.2.2.2.1)), (q7, .inl (G.2.2.1, 201, .inl v0.2.2.2.2.2.2.2.2.2.2.1)), (q8, .inl (G.2.2.1, 201, .inl v0.2.2.2.2.2.2.2.2.2.2.2.2.2.2.2.1))] 19 [(0, .ref q0), (1, .int y1), (2, .int y2), (3, .int y3)] [.int z0] := by
    intro y1 y2 y3 z0 hf
    unfold zf_X8_isWord_b19 at hf
    refine zg_istore (L' := [(4, .int z0), (0, .ref q0), (1, .int y1), (2, .int y2), (3, .int y3)]) X dX8_isWord_19 (by decide) rfl ?_
    refine zg_iconst (v := 0) X dX8_isWord_21 (by decide) ?_
    refine zg_istore (L' := [(5, .int 0), (4, .int z0), (0, .ref q0), (1, .int y1), (2, .int y2), (3, .int y3)]) X dX8_isWord_22 (by decide) rfl ?_
    refine zg_loc [2, 3, 4, 5, 1, 0] rfl ?_
    exact hL24 fu y1 y2 y3 z0 0 hf
  unfold zf_X8_isWord at hf
  refine zg_aload_n X dX8_isWord_0 rfl 0 rfl ?_
  refine zg_get (C := RX8) (T := TX8) (N := 17) X 0 0 hiX8 rfl rfl (by decide) hw0 rfl dX8_isWord_1 ?_
  refine zg_sipush (v := 806) X dX8_isWord_4 (by decide) ?_
  refine zg_iload_n X dX8_isWord_7 rfl 1 rfl ?_
  refine zg_iadd X dX8_isWord_8 ?_
  obtain ⟨x1, ex1, hf⟩ := pl_l hf
  refine zg_topi ex1 ?_
  obtain ⟨hin, hf⟩ := pl_in hf
  refine zg_iald X 1 rfl hin dX8_isWord_9 ?_
  obtain ⟨x2, ex2, hf⟩ := pl_l hf
  refine zg_topi ex2 ?_
  refine zg_iload_n X dX8_isWord_10 rfl 3 rfl ?_
  refine zg_icmp_ne (tgt := 18) X dX8_isWord_11 (by decide) (fun c3 => ?_) (fun c3 => ?_)
  · have hf := pl_f c3 hf
    refine zg_iconst (v := 0) X dX8_isWord_18 (by decide) ?_
    exact hb19 a1 a2 a3 0 hf
  · have hf := pl_t c3 hf
    refine zg_iconst (v := 1) X dX8_isWord_14 (by decide) ?_
    refine zg_goto (tgt := 19) X dX8_isWord_15 (by decide) ?_
    exact hb19 a1 a2 a3 1 hf
theorem zh_X8_isPlausible : yX8_isPlausible.cls = RX8 ∧ yX8_isPlausible.cls ≠ "java/lang/invoke/MethodHandle" ∧ yX8_isPlausible.cls ≠ "java/lang/invoke/VarHandle" ∧ (parseMethodDescriptor yX8_isPlausible.desc).map (fun d => d.parameters.length) = some 3 := by decide +kernel
set_option maxHeartbeats 8000000 in
set_option maxRecDepth 100000 in
theorem zc_X8_isPlausible (G : zgG) (q0 q1 q2 q3 q4 q5 q6 q7 q8 : Nat) (v0 : zModel) (a1 : Int32) (a2 : Int32) (a3 : Int32) (fu : Nat) (res : Int32) (hf : zf_X8_isPlausible fu v0 a1 a2 a3 = some res) : zgCt G yX8_isPlausible wsX8_isPlausible ({ frames := 1, cells := 0, slots := 0, locals := 25 } : Room) [.ref q0, .int a1, .int a2, .int a3] [(q0, .inr (7, [.ref q1, .ref q2, .int v0.2.2.1, .ref q3, .int v0.2.2.2.2.1, .int v0.2.2.2.2.2.1, .ref q4, .int v0.2.2.2.2.2.2.2.1, .ref q5, .ref q6, .ref q7, .int v0.2.2.2.2.2.2.2.2.2.2.2.1, .int v0.2.2.2.2.2.2.2.2.2.2.2.2.1, .int v0.2.2.2.2.2.2.2.2.2.2.2.2.2.1, .int v0.2.2.2.2.2.2.2.2.2.2.2.2.2.2.1, .ref q8, .int v0.2.2.2.2.2.2.2.2.2.2.2.2.2.2.2.2])), (q1, .inl (G.2.2.1, 946, .inl v0.1)), (q2, .inl (G.2.2.1, 5676, .inl v0.2.1)), (q3, .inl (G.2.2.1, 60, .inl v0.2.2.2.1)), (q4, .inl (G.2.2.1, 201, .inl v0.2.2.2.2.2.2.1)), (q5, .inl (G.2.2.1, 201, .inl v0.2.2.2.2.2.2.2.2.1)), (q6, .inl (G.2.2.1, 201, .inl v0.2.2.2.2.2.2.2.2.2.1)), (q7, .inl (G.2.2.1, 201, .inl v0.2.2.2.2.2.2.2.2.2.2.1)), (q8, .inl (G.2.2.1, 201, .inl v0.2.2.2.2.2.2.2.2.2.2.2.2.2.2.2.1))] (fun _ : Unit => some (.int res)) (fun _ => [(q0, .inr (7, [.ref q1, .ref q2, .int v0.2.2.1, .ref q3, .int v0.2.2.2.2.1, .int v0.2.2.2.2.2.1, .ref q4, .int v0.2.2.2.2.2.2.2.1, .ref q5, .ref q6, .ref q7, .int v0.2.2.2.2.2.2.2.2.2.2.2.1, .int v0.2.2.2.2.2.2.2.2.2.2.2.2.1, .int v0.2.2.2.2.2.2.2.2.2.2.2.2.2.1, .int v0.2.2.2.2.2.2.2.2.2.2.2.2.2.2.1, .ref q8, .int v0.2.2.2.2.2.2.2.2.2.2.2.2.2.2.2.2])), (q1, .inl (G.2.2.1, 946, .inl v0.1)), (q2, .inl (G.2.2.1, 5676, .inl v0.2.1)), (q3, .inl (G.2.2.1, 60, .inl v0.2.2.2.1)), (q4, .inl (G.2.2.1, 201, .inl v0.2.2.2.2.2.2.1)), (q5, .inl (G.2.2.1, 201, .inl v0.2.2.2.2.2.2.2.2.1)), (q6, .inl (G.2.2.1, 201, .inl v0.2.2.2.2.2.2.2.2.2.1)), (q7, .inl (G.2.2.1, 201, .inl v0.2.2.2.2.2.2.2.2.2.2.1)), (q8, .inl (G.2.2.1, 201, .inl v0.2.2.2.2.2.2.2.2.2.2.2.2.2.2.2.1))]) 0 0 := by
  have hw0 : Cond.fieldLink RX8 7 "TelexReceiverModel" "s" "[I" ∈ wsX8_isPlausible := by decide +kernel
  have hw1 : Cond.fieldLink RX8 31 "TelexReceiverModel" "codes" "[I" ∈ wsX8_isPlausible := by decide +kernel
  have hiX8 : ∀ w ∈ u_ws RX8 TX8 17, w ∈ wsX8_isPlausible := by decide +kernel
  refine zg_of (own := RX8) (cc := cX8_isPlausible) (nL := 6) (ret := (some .boolean)) (by decide +kernel) rfl rfl (Nat.le_of_ble_eq_true rfl) (fun Z X hF => ?_)
  show zgGd G Z _ 0 0 6 _ 0 [(0, .ref q0), (1, .int a1), (2, .int a2), (3, .int a3)] []
  have hL11 : ∀ (n : Nat) (y1 : Int32) (y2 : Int32) (y4 : Int32) (y5 : Int32), zf_X8_isPlausible_L11 fu v0 n y1 y2 y4 y5 = some res → zgGd G Z ({ frames := 1, cells := 0, slots := 0, locals := 25 } : Room) 0 0 6 [(q0, .inr (7, [.ref q1, .ref q2, .int v0.2.2.1, .ref q3, .int v0.2.2.2.2.1, .int v0.2.2.2.2.2.1, .ref q4, .int v0.2.2.2.2.2.2.2.1, .ref q5, .ref q6, .ref q7, .int v0.2.2.2.2.2.2.2.2.2.2.2.1, .int v0.2.2.2.2.2.2.2.2.2.2.2.2.1, .int v0.2.2.2.2.2.2.2.2.2.2.2.2.2.1, .int v0.2.2.2.2.2.2.2.2.2.2.2.2.2.2.1, .ref q8, .int v0.2.2.2.2.2.2.2.2.2.2.2.2.2.2.2.2])), (q1, .inl (G.2.2.1, 946, .inl v0.1)), (q2, .inl (G.2.2.1, 5676, .inl v0.2.1)), (q3, .inl (G.2.2.1, 60, .inl v0.2.2.2.1)), (q4, .inl (G.2.2.1, 201, .inl v0.2.2.2.2.2.2.1)), (q5, .inl (G.2.2.1, 201, .inl v0.2.2.2.2.2.2.2.2.1)), (q6, .inl (G.2.2.1, 201, .inl v0.2.2.2.2.2.2.2.2.2.1)), (q7, .inl (G.2.2.1, 201, .inl v0.2.2.2.2.2.2.2.2.2.2.1)), (q8, .inl (G.2.2.1, 201, .inl v0.2.2.2.2.2.2.2.2.2.2.2.2.2.2.2.1))] 11 [(0, .ref q0), (1, .int y1), (2, .int y2), (4, .int y4), (5, .int y5)] [] := by
    intro n
    induction n with
    | zero =>
      intro y1 y2 y4 y5 hf
      rw [zf_X8_isPlausible_L11] at hf
      cases hf
    | succ n11 ih11 =>
      have hb41 : ∀ (y1 : Int32) (y2 : Int32) (y5 : Int32) (z0 : Int32), zf_X8_isPlausible_b41 fu v0 (zf_X8_isPlausible_L11 fu v0 n11) y1 y2 y5 z0 = some res → zgGd G Z ({ frames := 1, cells := 0, slots := 0, locals := 25 } : Room) 0 0 6 [(q0, .inr (7, [.ref q1, .ref q2, .int v0.2.2.1, .ref q3, .int v0.2.2.2.2.1, .int v0.2.2.2.2.2.1, .ref q4, .int v0.2.2.2.2.2.2.2.1, .ref q5, .ref q6, .ref q7, .int v0.2.2.2.2.2.2.2.2.2.2.2.1, .int v0.2.2.2.2.2.2.2.2.2.2.2.2.1, .int v0.2.2.2.2.2.2.2.2.2.2.2.2.2.1, .int v0.2.2.2.2.2.2.2.2.2.2.2.2.2.2.1, .ref q8, .int v0.2.2.2.2.2.2.2.2.2.2.2.2.2.2.2.2])), (q1, .inl (G.2.2.1, 946, .inl v0.1)), (q2, .inl (G.2.2.1, 5676, .inl v0.2.1)), (q3, .inl (G.2.2.1, 60, .inl v0.2.2.2.1)), (q4, .inl (G.2.2.1, 201, .inl v0.2.2.2.2.2.2.1)), (q5, .inl (G.2.2.1, 201, .inl v0.2.2.2.2.2.2.2.2.1)), (q6, .inl (G.2.2.1, 201, .inl v0.2.2.2.2.2.2.2.2.2.1)), (q7, .inl (G.2.2.1, 201, .inl v0.2.2.2.2.2.2.2.2.2.2.1)), (q8, .inl (G.2.2.1, 201, .inl v0.2.2.2.2.2.2.2.2.2.2.2.2.2.2.2.1))] 41 [(0, .ref q0), (1, .int y1), (2, .int y2), (5, .int y5)] [.int z0] := by
        intro y1 y2 y5 z0 hf
        unfold zf_X8_isPlausible_b41 at hf
        refine zg_istore (L' := [(4, .int z0), (0, .ref q0), (1, .int y1), (2, .int y2), (5, .int y5)]) X dX8_isPlausible_41 (by decide) rfl ?_
        obtain ⟨x15, ex15, hf⟩ := pl_l hf
        refine zg_iinc (v := x15) (L' := [(5, .int x15), (4, .int z0), (0, .ref q0), (1, .int y1), (2, .int y2)]) X dX8_isPlausible_43 (j := 4) rfl (by rw [ex15]; rfl) (by decide) rfl ?_
        refine zg_goto (tgt := 11) X dX8_isPlausible_46 (by decide) ?_
        refine zg_loc [2, 3, 4, 1, 0] rfl ?_
        exact ih11 y1 y2 z0 x15 hf
      have hb40 : ∀ (y1 : Int32) (y2 : Int32) (y5 : Int32), zf_X8_isPlausible_b40 fu v0 (zf_X8_isPlausible_L11 fu v0 n11) y1 y2 y5 = some res → zgGd G Z ({ frames := 1, cells := 0, slots := 0, locals := 25 } : Room) 0 0 6 [(q0, .inr (7, [.ref q1, .ref q2, .int v0.2.2.1, .ref q3, .int v0.2.2.2.2.1, .int v0.2.2.2.2.2.1, .ref q4, .int v0.2.2.2.2.2.2.2.1, .ref q5, .ref q6, .ref q7, .int v0.2.2.2.2.2.2.2.2.2.2.2.1, .int v0.2.2.2.2.2.2.2.2.2.2.2.2.1, .int v0.2.2.2.2.2.2.2.2.2.2.2.2.2.1, .int v0.2.2.2.2.2.2.2.2.2.2.2.2.2.2.1, .ref q8, .int v0.2.2.2.2.2.2.2.2.2.2.2.2.2.2.2.2])), (q1, .inl (G.2.2.1, 946, .inl v0.1)), (q2, .inl (G.2.2.1, 5676, .inl v0.2.1)), (q3, .inl (G.2.2.1, 60, .inl v0.2.2.2.1)), (q4, .inl (G.2.2.1, 201, .inl v0.2.2.2.2.2.2.1)), (q5, .inl (G.2.2.1, 201, .inl v0.2.2.2.2.2.2.2.2.1)), (q6, .inl (G.2.2.1, 201, .inl v0.2.2.2.2.2.2.2.2.2.1)), (q7, .inl (G.2.2.1, 201, .inl v0.2.2.2.2.2.2.2.2.2.2.1)), (q8, .inl (G.2.2.1, 201, .inl v0.2.2.2.2.2.2.2.2.2.2.2.2.2.2.2.1))] 40 [(0, .ref q0), (1, .int y1), (2, .int y2), (5, .int y5)] [] := by
        intro y1 y2 y5 hf
        unfold zf_X8_isPlausible_b40 at hf
        refine zg_iconst (v := 0) X dX8_isPlausible_40 (by decide) ?_
        exact hb41 y1 y2 y5 0 hf
      intro y1 y2 y4 y5 hf
      rw [zf_X8_isPlausible_L11] at hf
      refine zg_iload X dX8_isPlausible_11 4 rfl ?_
      refine zg_iload_n X dX8_isPlausible_13 rfl 2 rfl ?_
      refine zg_icmp_ge (tgt := 49) X dX8_isPlausible_14 (by decide) (fun c8 => ?_) (fun c8 => ?_)
      · have hf := pl_t c8 hf
        refine zg_iload X dX8_isPlausible_49 3 rfl ?_
        obtain ⟨hb9, hf⟩ := pl_o hf
        have hf := Option.some.inj hf
        subst hf
        exact zg_iret X hF rfl (pl_nz hb9) () rfl rfl (Nat.le_of_ble_eq_true rfl) (Nat.le_of_ble_eq_true rfl) dX8_isPlausible_51
      · have hf := pl_f c8 hf
        refine zg_iload X dX8_isPlausible_17 3 rfl ?_
        refine zg_if_eq (tgt := 40) X dX8_isPlausible_19 (by decide) (fun c10 => ?_) (fun c10 => ?_)
        · have hf := pl_t c10 hf
          refine zg_loc [0, 1, 2, 4] rfl ?_
          exact hb40 y1 y2 y5 hf
        · have hf := pl_f c10 hf
          refine zg_aload_n X dX8_isPlausible_22 rfl 0 rfl ?_
          refine zg_get (C := RX8) (T := TX8) (N := 17) X 0 15 hiX8 rfl rfl (by decide) hw1 rfl dX8_isPlausible_23 ?_
          refine zg_iload_n X dX8_isPlausible_26 rfl 1 rfl ?_
          refine zg_iload X dX8_isPlausible_27 4 rfl ?_
          refine zg_iadd X dX8_isPlausible_29 ?_
          obtain ⟨x11, ex11, hf⟩ := pl_l hf
          refine zg_topi ex11 ?_
          obtain ⟨hin, hf⟩ := pl_in hf
          refine zg_iald X 8 rfl hin dX8_isPlausible_30 ?_
          obtain ⟨x12, ex12, hf⟩ := pl_l hf
          refine zg_topi ex12 ?_
          refine zg_bipush (v := 11) X dX8_isPlausible_31 (by decide) ?_
          refine zg_icmp_ge (tgt := 40) X dX8_isPlausible_33 (by decide) (fun c13 => ?_) (fun c13 => ?_)
          · have hf := pl_t c13 hf
            refine zg_loc [0, 1, 2, 4] rfl ?_
            exact hb40 y1 y2 y5 hf
          · have hf := pl_f c13 hf
            refine zg_iconst (v := 1) X dX8_isPlausible_36 (by decide) ?_
            refine zg_goto (tgt := 41) X dX8_isPlausible_37 (by decide) ?_
            refine zg_loc [0, 1, 2, 4] rfl ?_
            exact hb41 y1 y2 y5 1 hf
  have hL58 : ∀ (n : Nat) (y1 : Int32) (y2 : Int32) (y4 : Int32) (y5 : Int32), zf_X8_isPlausible_L58 fu v0 n y1 y2 y4 y5 = some res → zgGd G Z ({ frames := 1, cells := 0, slots := 0, locals := 25 } : Room) 0 0 6 [(q0, .inr (7, [.ref q1, .ref q2, .int v0.2.2.1, .ref q3, .int v0.2.2.2.2.1, .int v0.2.2.2.2.2.1, .ref q4, .int v0.2.2.2.2.2.2.2.1, .ref q5, .ref q6, .ref q7, .int v0.2.2.2.2.2.2.2.2.2.2.2.1, .int v0.2.2.2.2.2.2.2.2.2.2.2.2.1, .int v0.2.2.2.2.2.2.2.2.2.2.2.2.2.1, .int v0.2.2.2.2.2.2.2.2.2.2.2.2.2.2.1, .ref q8, .int v0.2.2.2.2.2.2.2.2.2.2.2.2.2.2.2.2])), (q1, .inl (G.2.2.1, 946, .inl v0.1)), (q2, .inl (G.2.2.1, 5676, .inl v0.2.1)), (q3, .inl (G.2.2.1, 60, .inl v0.2.2.2.1)), (q4, .inl (G.2.2.1, 201, .inl v0.2.2.2.2.2.2.1)), (q5, .inl (G.2.2.1, 201, .inl v0.2.2.2.2.2.2.2.2.1)), (q6, .inl (G.2.2.1, 201, .inl v0.2.2.2.2.2.2.2.2.2.1)), (q7, .inl (G.2.2.1, 201, .inl v0.2.2.2.2.2.2.2.2.2.2.1)), (q8, .inl (G.2.2.1, 201, .inl v0.2.2.2.2.2.2.2.2.2.2.2.2.2.2.2.1))] 58 [(0, .ref q0), (1, .int y1), (2, .int y2), (4, .int y4), (5, .int y5)] [] := by
    intro n
    induction n with
    | zero =>
      intro y1 y2 y4 y5 hf
      rw [zf_X8_isPlausible_L58] at hf
      cases hf
    | succ n58 ih58 =>
      have hb92 : ∀ (y1 : Int32) (y2 : Int32) (y5 : Int32) (z0 : Int32), zf_X8_isPlausible_b92 fu v0 (zf_X8_isPlausible_L58 fu v0 n58) y1 y2 y5 z0 = some res → zgGd G Z ({ frames := 1, cells := 0, slots := 0, locals := 25 } : Room) 0 0 6 [(q0, .inr (7, [.ref q1, .ref q2, .int v0.2.2.1, .ref q3, .int v0.2.2.2.2.1, .int v0.2.2.2.2.2.1, .ref q4, .int v0.2.2.2.2.2.2.2.1, .ref q5, .ref q6, .ref q7, .int v0.2.2.2.2.2.2.2.2.2.2.2.1, .int v0.2.2.2.2.2.2.2.2.2.2.2.2.1, .int v0.2.2.2.2.2.2.2.2.2.2.2.2.2.1, .int v0.2.2.2.2.2.2.2.2.2.2.2.2.2.2.1, .ref q8, .int v0.2.2.2.2.2.2.2.2.2.2.2.2.2.2.2.2])), (q1, .inl (G.2.2.1, 946, .inl v0.1)), (q2, .inl (G.2.2.1, 5676, .inl v0.2.1)), (q3, .inl (G.2.2.1, 60, .inl v0.2.2.2.1)), (q4, .inl (G.2.2.1, 201, .inl v0.2.2.2.2.2.2.1)), (q5, .inl (G.2.2.1, 201, .inl v0.2.2.2.2.2.2.2.2.1)), (q6, .inl (G.2.2.1, 201, .inl v0.2.2.2.2.2.2.2.2.2.1)), (q7, .inl (G.2.2.1, 201, .inl v0.2.2.2.2.2.2.2.2.2.2.1)), (q8, .inl (G.2.2.1, 201, .inl v0.2.2.2.2.2.2.2.2.2.2.2.2.2.2.2.1))] 92 [(0, .ref q0), (1, .int y1), (2, .int y2), (5, .int y5)] [.int z0] := by
        intro y1 y2 y5 z0 hf
        unfold zf_X8_isPlausible_b92 at hf
        refine zg_istore (L' := [(4, .int z0), (0, .ref q0), (1, .int y1), (2, .int y2), (5, .int y5)]) X dX8_isPlausible_92 (by decide) rfl ?_
        obtain ⟨x14, ex14, hf⟩ := pl_l hf
        refine zg_iinc (v := x14) (L' := [(5, .int x14), (4, .int z0), (0, .ref q0), (1, .int y1), (2, .int y2)]) X dX8_isPlausible_94 (j := 4) rfl (by rw [ex14]; rfl) (by decide) rfl ?_
        refine zg_goto (tgt := 58) X dX8_isPlausible_97 (by decide) ?_
        refine zg_loc [2, 3, 4, 1, 0] rfl ?_
        exact ih58 y1 y2 z0 x14 hf
      have hb87 : ∀ (y1 : Int32) (y2 : Int32) (y5 : Int32), zf_X8_isPlausible_b87 fu v0 (zf_X8_isPlausible_L58 fu v0 n58) y1 y2 y5 = some res → zgGd G Z ({ frames := 1, cells := 0, slots := 0, locals := 25 } : Room) 0 0 6 [(q0, .inr (7, [.ref q1, .ref q2, .int v0.2.2.1, .ref q3, .int v0.2.2.2.2.1, .int v0.2.2.2.2.2.1, .ref q4, .int v0.2.2.2.2.2.2.2.1, .ref q5, .ref q6, .ref q7, .int v0.2.2.2.2.2.2.2.2.2.2.2.1, .int v0.2.2.2.2.2.2.2.2.2.2.2.2.1, .int v0.2.2.2.2.2.2.2.2.2.2.2.2.2.1, .int v0.2.2.2.2.2.2.2.2.2.2.2.2.2.2.1, .ref q8, .int v0.2.2.2.2.2.2.2.2.2.2.2.2.2.2.2.2])), (q1, .inl (G.2.2.1, 946, .inl v0.1)), (q2, .inl (G.2.2.1, 5676, .inl v0.2.1)), (q3, .inl (G.2.2.1, 60, .inl v0.2.2.2.1)), (q4, .inl (G.2.2.1, 201, .inl v0.2.2.2.2.2.2.1)), (q5, .inl (G.2.2.1, 201, .inl v0.2.2.2.2.2.2.2.2.1)), (q6, .inl (G.2.2.1, 201, .inl v0.2.2.2.2.2.2.2.2.2.1)), (q7, .inl (G.2.2.1, 201, .inl v0.2.2.2.2.2.2.2.2.2.2.1)), (q8, .inl (G.2.2.1, 201, .inl v0.2.2.2.2.2.2.2.2.2.2.2.2.2.2.2.1))] 87 [(0, .ref q0), (1, .int y1), (2, .int y2), (5, .int y5)] [] := by
        intro y1 y2 y5 hf
        unfold zf_X8_isPlausible_b87 at hf
        refine zg_iconst (v := 1) X dX8_isPlausible_87 (by decide) ?_
        refine zg_goto (tgt := 92) X dX8_isPlausible_88 (by decide) ?_
        exact hb92 y1 y2 y5 1 hf
      intro y1 y2 y4 y5 hf
      rw [zf_X8_isPlausible_L58] at hf
      refine zg_iload X dX8_isPlausible_58 4 rfl ?_
      refine zg_aload_n X dX8_isPlausible_60 rfl 0 rfl ?_
      refine zg_get (C := RX8) (T := TX8) (N := 17) X 0 0 hiX8 rfl rfl (by decide) hw0 rfl dX8_isPlausible_61 ?_
      refine zg_sipush (v := 805) X dX8_isPlausible_64 (by decide) ?_
      refine zg_iald X 1 rfl (by unfold vp_in; decide) dX8_isPlausible_67 ?_
      obtain ⟨x2, ex2, hf⟩ := pl_l hf
      refine zg_topi ex2 ?_
      refine zg_icmp_ge (tgt := 100) X dX8_isPlausible_68 (by decide) (fun c3 => ?_) (fun c3 => ?_)
      · have hf := pl_t c3 hf
        refine zg_iload X dX8_isPlausible_100 3 rfl ?_
        obtain ⟨hb4, hf⟩ := pl_o hf
        have hf := Option.some.inj hf
        subst hf
        exact zg_iret X hF rfl (pl_nz hb4) () rfl rfl (Nat.le_of_ble_eq_true rfl) (Nat.le_of_ble_eq_true rfl) dX8_isPlausible_102
      · have hf := pl_f c3 hf
        refine zg_iload X dX8_isPlausible_71 3 rfl ?_
        refine zg_if_ne (tgt := 87) X dX8_isPlausible_73 (by decide) (fun c5 => ?_) (fun c5 => ?_)
        · have hf := pl_f c5 hf
          refine zg_loc [0, 1, 2, 4] rfl ?_
          exact hb87 y1 y2 y5 hf
        · have hf := pl_t c5 hf
          refine zg_aload_n X dX8_isPlausible_76 rfl 0 rfl ?_
          refine zg_iload X dX8_isPlausible_77 4 rfl ?_
          refine zg_iload_n X dX8_isPlausible_79 rfl 1 rfl ?_
          refine zg_iload_n X dX8_isPlausible_80 rfl 2 rfl ?_
          obtain ⟨b6, hb6, hf⟩ := pl_b hf
          refine zg_cP1 X (zg_runV X (zc_X8_isWord G q0 q1 q2 q3 q4 q5 q6 q7 q8 v0 y5 y1 y2 fu b6 hb6) gX8_isPlausible_X8_isWord rfl zh_X8_isWord ⟨rfl, rfl⟩ ⟨Nat.le_of_ble_eq_true rfl, Nat.le_of_ble_eq_true rfl⟩ rfl rfl rfl (Nat.le_of_ble_eq_true rfl) ⟨Nat.le_of_ble_eq_true rfl, Nat.le_of_ble_eq_true rfl⟩ [0, 1, 2, 3, 4, 5, 6, 7, 8] (by decide) rfl rfl dX8_isPlausible_81) rfl ?_
          refine zg_if_eq (tgt := 91) X dX8_isPlausible_84 (by decide) (fun c7 => ?_) (fun c7 => ?_)
          · have hf := pl_t c7 hf
            refine zg_iconst (v := 0) X dX8_isPlausible_91 (by decide) ?_
            refine zg_loc [0, 1, 2, 4] rfl ?_
            exact hb92 y1 y2 y5 0 hf
          · have hf := pl_f c7 hf
            refine zg_loc [0, 1, 2, 4] rfl ?_
            exact hb87 y1 y2 y5 hf
  unfold zf_X8_isPlausible at hf
  refine zg_iload_n X dX8_isPlausible_0 rfl 3 rfl ?_
  refine zg_iconst (v := 1) X dX8_isPlausible_1 (by decide) ?_
  refine zg_icmp_ne (tgt := 52) X dX8_isPlausible_2 (by decide) (fun c1 => ?_) (fun c1 => ?_)
  · have hf := pl_f c1 hf
    refine zg_iconst (v := 0) X dX8_isPlausible_52 (by decide) ?_
    refine zg_istore (L' := [(4, .int 0), (0, .ref q0), (1, .int a1), (2, .int a2), (3, .int a3)]) X dX8_isPlausible_53 (by decide) rfl ?_
    refine zg_iconst (v := 0) X dX8_isPlausible_55 (by decide) ?_
    refine zg_istore (L' := [(5, .int 0), (4, .int 0), (0, .ref q0), (1, .int a1), (2, .int a2), (3, .int a3)]) X dX8_isPlausible_56 (by decide) rfl ?_
    refine zg_loc [2, 3, 4, 1, 0] rfl ?_
    exact hL58 fu a1 a2 0 0 hf
  · have hf := pl_t c1 hf
    refine zg_iconst (v := 1) X dX8_isPlausible_5 (by decide) ?_
    refine zg_istore (L' := [(4, .int 1), (0, .ref q0), (1, .int a1), (2, .int a2), (3, .int a3)]) X dX8_isPlausible_6 (by decide) rfl ?_
    refine zg_iconst (v := 0) X dX8_isPlausible_8 (by decide) ?_
    refine zg_istore (L' := [(5, .int 0), (4, .int 1), (0, .ref q0), (1, .int a1), (2, .int a2), (3, .int a3)]) X dX8_isPlausible_9 (by decide) rfl ?_
    refine zg_loc [2, 3, 4, 1, 0] rfl ?_
    exact hL11 fu a1 a2 1 0 hf
theorem zh_X8_prints : yX8_prints.cls = RX8 ∧ yX8_prints.cls ≠ "java/lang/invoke/MethodHandle" ∧ yX8_prints.cls ≠ "java/lang/invoke/VarHandle" ∧ (parseMethodDescriptor yX8_prints.desc).map (fun d => d.parameters.length) = some 1 := by decide +kernel
set_option maxHeartbeats 8000000 in
set_option maxRecDepth 100000 in
theorem zc_X8_prints (G : zgG) (q0 q1 q2 q3 q4 q5 q6 q7 q8 : Nat) (v0 : zModel) (a1 : Int32) (fu : Nat) (res : zModel) (hf : zf_X8_prints fu v0 a1 = some res) : zgCt G yX8_prints wsX8_prints ({ frames := 0, cells := 0, slots := 0, locals := 0 } : Room) [.ref q0, .int a1] [(q0, .inr (7, [.ref q1, .ref q2, .int v0.2.2.1, .ref q3, .int v0.2.2.2.2.1, .int v0.2.2.2.2.2.1, .ref q4, .int v0.2.2.2.2.2.2.2.1, .ref q5, .ref q6, .ref q7, .int v0.2.2.2.2.2.2.2.2.2.2.2.1, .int v0.2.2.2.2.2.2.2.2.2.2.2.2.1, .int v0.2.2.2.2.2.2.2.2.2.2.2.2.2.1, .int v0.2.2.2.2.2.2.2.2.2.2.2.2.2.2.1, .ref q8, .int v0.2.2.2.2.2.2.2.2.2.2.2.2.2.2.2.2])), (q1, .inl (G.2.2.1, 946, .inl v0.1)), (q2, .inl (G.2.2.1, 5676, .inl v0.2.1)), (q3, .inl (G.2.2.1, 60, .inl v0.2.2.2.1)), (q4, .inl (G.2.2.1, 201, .inl v0.2.2.2.2.2.2.1)), (q5, .inl (G.2.2.1, 201, .inl v0.2.2.2.2.2.2.2.2.1)), (q6, .inl (G.2.2.1, 201, .inl v0.2.2.2.2.2.2.2.2.2.1)), (q7, .inl (G.2.2.1, 201, .inl v0.2.2.2.2.2.2.2.2.2.2.1)), (q8, .inl (G.2.2.1, 201, .inl v0.2.2.2.2.2.2.2.2.2.2.2.2.2.2.2.1))] (fun _ : Unit => none) (fun _ => [(q0, .inr (7, [.ref q1, .ref q2, .int res.2.2.1, .ref q3, .int res.2.2.2.2.1, .int res.2.2.2.2.2.1, .ref q4, .int res.2.2.2.2.2.2.2.1, .ref q5, .ref q6, .ref q7, .int res.2.2.2.2.2.2.2.2.2.2.2.1, .int res.2.2.2.2.2.2.2.2.2.2.2.2.1, .int res.2.2.2.2.2.2.2.2.2.2.2.2.2.1, .int res.2.2.2.2.2.2.2.2.2.2.2.2.2.2.1, .ref q8, .int res.2.2.2.2.2.2.2.2.2.2.2.2.2.2.2.2])), (q1, .inl (G.2.2.1, 946, .inl res.1)), (q2, .inl (G.2.2.1, 5676, .inl res.2.1)), (q3, .inl (G.2.2.1, 60, .inl res.2.2.2.1)), (q4, .inl (G.2.2.1, 201, .inl res.2.2.2.2.2.2.1)), (q5, .inl (G.2.2.1, 201, .inl res.2.2.2.2.2.2.2.2.1)), (q6, .inl (G.2.2.1, 201, .inl res.2.2.2.2.2.2.2.2.2.1)), (q7, .inl (G.2.2.1, 201, .inl res.2.2.2.2.2.2.2.2.2.2.1)), (q8, .inl (G.2.2.1, 201, .inl res.2.2.2.2.2.2.2.2.2.2.2.2.2.2.2.1))]) 0 0 := by
  have hw0 : Cond.fieldLink RX8 19 "TelexReceiverModel" "paper" "[I" ∈ wsX8_prints := by decide +kernel
  have hw1 : Cond.fieldLink RX8 88 "TelexReceiverModel" "printed" "I" ∈ wsX8_prints := by decide +kernel
  have hiX8 : ∀ w ∈ u_ws RX8 TX8 17, w ∈ wsX8_prints := by decide +kernel
  refine zg_of (own := RX8) (cc := cX8_prints) (nL := 2) (ret := none) (by decide +kernel) rfl rfl (Nat.le_of_ble_eq_true rfl) (fun Z X hF => ?_)
  show zgGd G Z _ 0 0 2 _ 0 [(0, .ref q0), (1, .int a1)] []
  unfold zf_X8_prints at hf
  refine zg_aload_n X dX8_prints_0 rfl 0 rfl ?_
  refine zg_get (C := RX8) (T := TX8) (N := 17) X 0 6 hiX8 rfl rfl (by decide) hw0 rfl dX8_prints_1 ?_
  refine zg_aload_n X dX8_prints_4 rfl 0 rfl ?_
  refine zg_get (C := RX8) (T := TX8) (N := 17) X 0 7 hiX8 rfl rfl (by decide) hw1 rfl dX8_prints_5 ?_
  refine zg_iload_n X dX8_prints_8 rfl 1 rfl ?_
  obtain ⟨hin, hf⟩ := pl_in hf
  obtain ⟨f1, ef1, hf⟩ := pl_l hf
  refine zg_iast (ws' := [(q0, .inr (7, [.ref q1, .ref q2, .int v0.2.2.1, .ref q3, .int v0.2.2.2.2.1, .int v0.2.2.2.2.2.1, .ref q4, .int v0.2.2.2.2.2.2.2.1, .ref q5, .ref q6, .ref q7, .int v0.2.2.2.2.2.2.2.2.2.2.2.1, .int v0.2.2.2.2.2.2.2.2.2.2.2.2.1, .int v0.2.2.2.2.2.2.2.2.2.2.2.2.2.1, .int v0.2.2.2.2.2.2.2.2.2.2.2.2.2.2.1, .ref q8, .int v0.2.2.2.2.2.2.2.2.2.2.2.2.2.2.2.2])), (q1, .inl (G.2.2.1, 946, .inl v0.1)), (q2, .inl (G.2.2.1, 5676, .inl v0.2.1)), (q3, .inl (G.2.2.1, 60, .inl v0.2.2.2.1)), (q4, .inl (G.2.2.1, 201, .inl f1)), (q5, .inl (G.2.2.1, 201, .inl v0.2.2.2.2.2.2.2.2.1)), (q6, .inl (G.2.2.1, 201, .inl v0.2.2.2.2.2.2.2.2.2.1)), (q7, .inl (G.2.2.1, 201, .inl v0.2.2.2.2.2.2.2.2.2.2.1)), (q8, .inl (G.2.2.1, 201, .inl v0.2.2.2.2.2.2.2.2.2.2.2.2.2.2.2.1))]) X 4 rfl hin (by subst ef1; rfl) dX8_prints_9 ?_
  refine zg_aload_n X dX8_prints_10 rfl 0 rfl ?_
  refine zg_dup X dX8_prints_11 rfl ?_
  refine zg_get (C := RX8) (T := TX8) (N := 17) X 0 7 hiX8 rfl rfl (by decide) hw1 rfl dX8_prints_12 ?_
  refine zg_iconst (v := 1) X dX8_prints_15 (by decide) ?_
  refine zg_iadd X dX8_prints_16 ?_
  obtain ⟨x2, ex2, hf⟩ := pl_l hf
  refine zg_topi ex2 ?_
  refine zg_put (C := RX8) (T := TX8) (N := 17) (ty := .int) (ws' := [(q0, .inr (7, [.ref q1, .ref q2, .int v0.2.2.1, .ref q3, .int v0.2.2.2.2.1, .int v0.2.2.2.2.2.1, .ref q4, .int x2, .ref q5, .ref q6, .ref q7, .int v0.2.2.2.2.2.2.2.2.2.2.2.1, .int v0.2.2.2.2.2.2.2.2.2.2.2.2.1, .int v0.2.2.2.2.2.2.2.2.2.2.2.2.2.1, .int v0.2.2.2.2.2.2.2.2.2.2.2.2.2.2.1, .ref q8, .int v0.2.2.2.2.2.2.2.2.2.2.2.2.2.2.2.2])), (q1, .inl (G.2.2.1, 946, .inl v0.1)), (q2, .inl (G.2.2.1, 5676, .inl v0.2.1)), (q3, .inl (G.2.2.1, 60, .inl v0.2.2.2.1)), (q4, .inl (G.2.2.1, 201, .inl f1)), (q5, .inl (G.2.2.1, 201, .inl v0.2.2.2.2.2.2.2.2.1)), (q6, .inl (G.2.2.1, 201, .inl v0.2.2.2.2.2.2.2.2.2.1)), (q7, .inl (G.2.2.1, 201, .inl v0.2.2.2.2.2.2.2.2.2.2.1)), (q8, .inl (G.2.2.1, 201, .inl v0.2.2.2.2.2.2.2.2.2.2.2.2.2.2.2.1))]) X 0 7 hiX8 tyX8 tyX8_ok nmX8 rfl rfl (by decide) hw1 rfl (by decide +kernel) rfl rfl (Nat.le_of_ble_eq_true rfl) rfl dX8_prints_17 ?_
  have hf := Option.some.inj hf
  subst hf
  exact zg_vret X hF () rfl rfl (Nat.le_of_ble_eq_true rfl) (Nat.le_of_ble_eq_true rfl) dX8_prints_20
theorem zh_X8_segment : yX8_segment.cls = RX8 ∧ yX8_segment.cls ≠ "java/lang/invoke/MethodHandle" ∧ yX8_segment.cls ≠ "java/lang/invoke/VarHandle" ∧ (parseMethodDescriptor yX8_segment.desc).map (fun d => d.parameters.length) = some 1 := by decide +kernel
set_option maxHeartbeats 8000000 in
set_option maxRecDepth 100000 in
theorem zc_X8_segment (G : zgG) (q0 q1 q2 q3 q4 q5 q6 q7 q8 : Nat) (v0 : zModel) (a1 : Int32) (fu : Nat) (res : (Int32 × zModel)) (hf : zf_X8_segment fu v0 a1 = some res) : zgCt G yX8_segment wsX8_segment ({ frames := 2, cells := 0, slots := 0, locals := 50 } : Room) [.ref q0, .int a1] [(q0, .inr (7, [.ref q1, .ref q2, .int v0.2.2.1, .ref q3, .int v0.2.2.2.2.1, .int v0.2.2.2.2.2.1, .ref q4, .int v0.2.2.2.2.2.2.2.1, .ref q5, .ref q6, .ref q7, .int v0.2.2.2.2.2.2.2.2.2.2.2.1, .int v0.2.2.2.2.2.2.2.2.2.2.2.2.1, .int v0.2.2.2.2.2.2.2.2.2.2.2.2.2.1, .int v0.2.2.2.2.2.2.2.2.2.2.2.2.2.2.1, .ref q8, .int v0.2.2.2.2.2.2.2.2.2.2.2.2.2.2.2.2])), (q1, .inl (G.2.2.1, 946, .inl v0.1)), (q2, .inl (G.2.2.1, 5676, .inl v0.2.1)), (q3, .inl (G.2.2.1, 60, .inl v0.2.2.2.1)), (q4, .inl (G.2.2.1, 201, .inl v0.2.2.2.2.2.2.1)), (q5, .inl (G.2.2.1, 201, .inl v0.2.2.2.2.2.2.2.2.1)), (q6, .inl (G.2.2.1, 201, .inl v0.2.2.2.2.2.2.2.2.2.1)), (q7, .inl (G.2.2.1, 201, .inl v0.2.2.2.2.2.2.2.2.2.2.1)), (q8, .inl (G.2.2.1, 201, .inl v0.2.2.2.2.2.2.2.2.2.2.2.2.2.2.2.1))] (fun _ : Unit => some (.int res.1)) (fun _ => [(q0, .inr (7, [.ref q1, .ref q2, .int res.2.2.2.1, .ref q3, .int res.2.2.2.2.2.1, .int res.2.2.2.2.2.2.1, .ref q4, .int res.2.2.2.2.2.2.2.2.1, .ref q5, .ref q6, .ref q7, .int res.2.2.2.2.2.2.2.2.2.2.2.2.1, .int res.2.2.2.2.2.2.2.2.2.2.2.2.2.1, .int res.2.2.2.2.2.2.2.2.2.2.2.2.2.2.1, .int res.2.2.2.2.2.2.2.2.2.2.2.2.2.2.2.1, .ref q8, .int res.2.2.2.2.2.2.2.2.2.2.2.2.2.2.2.2.2])), (q1, .inl (G.2.2.1, 946, .inl res.2.1)), (q2, .inl (G.2.2.1, 5676, .inl res.2.2.1)), (q3, .inl (G.2.2.1, 60, .inl res.2.2.2.2.1)), (q4, .inl (G.2.2.1, 201, .inl res.2.2.2.2.2.2.2.1)), (q5, .inl (G.2.2.1, 201, .inl res.2.2.2.2.2.2.2.2.2.1)), (q6, .inl (G.2.2.1, 201, .inl res.2.2.2.2.2.2.2.2.2.2.1)), (q7, .inl (G.2.2.1, 201, .inl res.2.2.2.2.2.2.2.2.2.2.2.1)), (q8, .inl (G.2.2.1, 201, .inl res.2.2.2.2.2.2.2.2.2.2.2.2.2.2.2.2.1))]) 0 0 := by
  have hw0 : Cond.fieldLink RX8 34 "TelexReceiverModel" "many" "I" ∈ wsX8_segment := by decide +kernel
  have hw1 : Cond.fieldLink RX8 31 "TelexReceiverModel" "codes" "[I" ∈ wsX8_segment := by decide +kernel
  have hw2 : Cond.fieldLink RX8 91 "TelexReceiverModel" "shift" "I" ∈ wsX8_segment := by decide +kernel
  have hw3 : Cond.fieldLink RX8 22 "TelexReceiverModel" "begin" "[I" ∈ wsX8_segment := by decide +kernel
  have hw4 : Cond.fieldLink RX8 97 "TelexReceiverModel" "segments" "I" ∈ wsX8_segment := by decide +kernel
  have hw5 : Cond.fieldLink RX8 25 "TelexReceiverModel" "size" "[I" ∈ wsX8_segment := by decide +kernel
  have hw6 : Cond.fieldLink RX8 28 "TelexReceiverModel" "kind" "[I" ∈ wsX8_segment := by decide +kernel
  have hiX8 : ∀ w ∈ u_ws RX8 TX8 17, w ∈ wsX8_segment := by decide +kernel
  refine zg_of (own := RX8) (cc := cX8_segment) (nL := 5) (ret := (some .int)) (by decide +kernel) rfl rfl (Nat.le_of_ble_eq_true rfl) (fun Z X hF => ?_)
  show zgGd G Z _ 0 0 5 _ 0 [(0, .ref q0), (1, .int a1)] []
  have hL150 : ∀ (n : Nat) (y2 : Int32) (y4 : Int32) (w0 : (Nat → Int32)) (w1 : (Nat → Int32)) (w2 : Int32) (w3 : (Nat → Int32)) (w4 : Int32) (w5 : Int32) (w6 : (Nat → Int32)) (w7 : Int32) (w8 : (Nat → Int32)) (w9 : (Nat → Int32)) (w10 : (Nat → Int32)) (w11 : Int32) (w12 : Int32) (w13 : Int32) (w14 : Int32) (w15 : (Nat → Int32)) (w16 : Int32), zf_X8_segment_L150 fu v0 n y2 y4 w0 w1 w2 w3 w4 w5 w6 w7 w8 w9 w10 w11 w12 w13 w14 w15 w16 = some res → zgGd G Z ({ frames := 2, cells := 0, slots := 0, locals := 50 } : Room) 0 0 5 [(q0, .inr (7, [.ref q1, .ref q2, .int w2, .ref q3, .int w4, .int w5, .ref q4, .int w7, .ref q5, .ref q6, .ref q7, .int w11, .int w12, .int w13, .int w14, .ref q8, .int w16])), (q1, .inl (G.2.2.1, 946, .inl w0)), (q2, .inl (G.2.2.1, 5676, .inl w1)), (q3, .inl (G.2.2.1, 60, .inl w3)), (q4, .inl (G.2.2.1, 201, .inl w6)), (q5, .inl (G.2.2.1, 201, .inl w8)), (q6, .inl (G.2.2.1, 201, .inl w9)), (q7, .inl (G.2.2.1, 201, .inl w10)), (q8, .inl (G.2.2.1, 201, .inl w15))] 150 [(0, .ref q0), (2, .int y2), (4, .int y4)] [] := by
    intro n
    induction n with
    | zero =>
      intro y2 y4 w0 w1 w2 w3 w4 w5 w6 w7 w8 w9 w10 w11 w12 w13 w14 w15 w16 hf
      rw [zf_X8_segment_L150] at hf
      cases hf
    | succ n150 ih150 =>
      intro y2 y4 w0 w1 w2 w3 w4 w5 w6 w7 w8 w9 w10 w11 w12 w13 w14 w15 w16 hf
      rw [zf_X8_segment_L150] at hf
      refine zg_iload X dX8_segment_150 2 rfl ?_
      refine zg_iload_n X dX8_segment_152 rfl 1 rfl ?_
      refine zg_icmp_ge (tgt := 180) X dX8_segment_153 (by decide) (fun c16 => ?_) (fun c16 => ?_)
      · have hf := pl_t c16 hf
        refine zg_iload_n X dX8_segment_180 rfl 1 rfl ?_
        have hf := Option.some.inj hf
        subst hf
        exact zg_iret X hF rfl rfl () rfl rfl (Nat.le_of_ble_eq_true rfl) (Nat.le_of_ble_eq_true rfl) dX8_segment_181
      · have hf := pl_f c16 hf
        refine zg_aload_n X dX8_segment_156 rfl 0 rfl ?_
        refine zg_aload_n X dX8_segment_157 rfl 0 rfl ?_
        refine zg_get (C := RX8) (T := TX8) (N := 17) X 0 15 hiX8 rfl rfl (by decide) hw1 rfl dX8_segment_158 ?_
        refine zg_iload X dX8_segment_161 2 rfl ?_
        obtain ⟨hin, hf⟩ := pl_in hf
        refine zg_iald X 8 rfl hin dX8_segment_163 ?_
        obtain ⟨x17, ex17, hf⟩ := pl_l hf
        refine zg_topi ex17 ?_
        refine zg_aload_n X dX8_segment_164 rfl 0 rfl ?_
        refine zg_get (C := RX8) (T := TX8) (N := 17) X 0 14 hiX8 rfl rfl (by decide) hw2 rfl dX8_segment_165 ?_
        obtain ⟨b18, hb18, hf⟩ := pl_b hf
        refine zg_cP1 X (zg_runS X (zc_X8_characterOf G x17 w14 fu b18 hb18) gX8_segment_X8_characterOf rfl zh_X8_characterOf.2 ⟨rfl, rfl⟩ ⟨Nat.le_of_ble_eq_true rfl, Nat.le_of_ble_eq_true rfl⟩ rfl (Nat.le_of_ble_eq_true rfl) ⟨Nat.le_of_ble_eq_true rfl, Nat.le_of_ble_eq_true rfl⟩ [] (by decide) rfl rfl dX8_segment_168) rfl ?_
        obtain ⟨b19, hb19, hf⟩ := pl_b hf
        refine zg_cU0 (ws2 := [(q0, .inr (7, [.ref q1, .ref q2, .int b19.2.2.1, .ref q3, .int b19.2.2.2.2.1, .int b19.2.2.2.2.2.1, .ref q4, .int b19.2.2.2.2.2.2.2.1, .ref q5, .ref q6, .ref q7, .int b19.2.2.2.2.2.2.2.2.2.2.2.1, .int b19.2.2.2.2.2.2.2.2.2.2.2.2.1, .int b19.2.2.2.2.2.2.2.2.2.2.2.2.2.1, .int b19.2.2.2.2.2.2.2.2.2.2.2.2.2.2.1, .ref q8, .int b19.2.2.2.2.2.2.2.2.2.2.2.2.2.2.2.2])), (q1, .inl (G.2.2.1, 946, .inl b19.1)), (q2, .inl (G.2.2.1, 5676, .inl b19.2.1)), (q3, .inl (G.2.2.1, 60, .inl b19.2.2.2.1)), (q4, .inl (G.2.2.1, 201, .inl b19.2.2.2.2.2.2.1)), (q5, .inl (G.2.2.1, 201, .inl b19.2.2.2.2.2.2.2.2.1)), (q6, .inl (G.2.2.1, 201, .inl b19.2.2.2.2.2.2.2.2.2.1)), (q7, .inl (G.2.2.1, 201, .inl b19.2.2.2.2.2.2.2.2.2.2.1)), (q8, .inl (G.2.2.1, 201, .inl b19.2.2.2.2.2.2.2.2.2.2.2.2.2.2.2.1))]) X (zg_runV X (zc_X8_prints G q0 q1 q2 q3 q4 q5 q6 q7 q8 (w0, w1, w2, w3, w4, w5, w6, w7, w8, w9, w10, w11, w12, w13, w14, w15, w16) b18 fu b19 hb19) gX8_segment_X8_prints rfl zh_X8_prints ⟨rfl, rfl⟩ ⟨Nat.le_of_ble_eq_true rfl, Nat.le_of_ble_eq_true rfl⟩ rfl rfl rfl (Nat.le_of_ble_eq_true rfl) ⟨Nat.le_of_ble_eq_true rfl, Nat.le_of_ble_eq_true rfl⟩ [0, 1, 2, 3, 4, 5, 6, 7, 8] (by decide) rfl rfl dX8_segment_171) rfl rfl ?_
        obtain ⟨x20, ex20, hf⟩ := pl_l hf
        refine zg_iinc (v := x20) (L' := [(4, .int x20), (0, .ref q0), (2, .int y2)]) X dX8_segment_174 (j := 2) rfl (by rw [ex20]; rfl) (by decide) rfl ?_
        refine zg_goto (tgt := 150) X dX8_segment_177 (by decide) ?_
        refine zg_loc [1, 2, 0] rfl ?_
        exact ih150 y2 x20 b19.1 b19.2.1 b19.2.2.1 b19.2.2.2.1 b19.2.2.2.2.1 b19.2.2.2.2.2.1 b19.2.2.2.2.2.2.1 b19.2.2.2.2.2.2.2.1 b19.2.2.2.2.2.2.2.2.1 b19.2.2.2.2.2.2.2.2.2.1 b19.2.2.2.2.2.2.2.2.2.2.1 b19.2.2.2.2.2.2.2.2.2.2.2.1 b19.2.2.2.2.2.2.2.2.2.2.2.2.1 b19.2.2.2.2.2.2.2.2.2.2.2.2.2.1 b19.2.2.2.2.2.2.2.2.2.2.2.2.2.2.1 b19.2.2.2.2.2.2.2.2.2.2.2.2.2.2.2.1 b19.2.2.2.2.2.2.2.2.2.2.2.2.2.2.2.2 hf
  have hb105 : ∀ (y1 : Int32) (y2 : Int32) (y3 : Int32) (w0 : (Nat → Int32)) (w1 : (Nat → Int32)) (w2 : Int32) (w3 : (Nat → Int32)) (w4 : Int32) (w5 : Int32) (w6 : (Nat → Int32)) (w7 : Int32) (w8 : (Nat → Int32)) (w9 : (Nat → Int32)) (w10 : (Nat → Int32)) (w11 : Int32) (w12 : Int32) (w13 : Int32) (w14 : Int32) (w15 : (Nat → Int32)) (w16 : Int32), zf_X8_segment_b105 fu v0 y1 y2 y3 w0 w1 w2 w3 w4 w5 w6 w7 w8 w9 w10 w11 w12 w13 w14 w15 w16 = some res → zgGd G Z ({ frames := 2, cells := 0, slots := 0, locals := 50 } : Room) 0 0 5 [(q0, .inr (7, [.ref q1, .ref q2, .int w2, .ref q3, .int w4, .int w5, .ref q4, .int w7, .ref q5, .ref q6, .ref q7, .int w11, .int w12, .int w13, .int w14, .ref q8, .int w16])), (q1, .inl (G.2.2.1, 946, .inl w0)), (q2, .inl (G.2.2.1, 5676, .inl w1)), (q3, .inl (G.2.2.1, 60, .inl w3)), (q4, .inl (G.2.2.1, 201, .inl w6)), (q5, .inl (G.2.2.1, 201, .inl w8)), (q6, .inl (G.2.2.1, 201, .inl w9)), (q7, .inl (G.2.2.1, 201, .inl w10)), (q8, .inl (G.2.2.1, 201, .inl w15))] 105 [(0, .ref q0), (1, .int y1), (2, .int y2), (3, .int y3)] [] := by
    intro y1 y2 y3 w0 w1 w2 w3 w4 w5 w6 w7 w8 w9 w10 w11 w12 w13 w14 w15 w16 hf
    unfold zf_X8_segment_b105 at hf
    refine zg_aload_n X dX8_segment_105 rfl 0 rfl ?_
    refine zg_get (C := RX8) (T := TX8) (N := 17) X 0 8 hiX8 rfl rfl (by decide) hw3 rfl dX8_segment_106 ?_
    refine zg_aload_n X dX8_segment_109 rfl 0 rfl ?_
    refine zg_get (C := RX8) (T := TX8) (N := 17) X 0 11 hiX8 rfl rfl (by decide) hw4 rfl dX8_segment_110 ?_
    refine zg_iload_n X dX8_segment_113 rfl 1 rfl ?_
    obtain ⟨hin, hf⟩ := pl_in hf
    obtain ⟨f10, ef10, hf⟩ := pl_l hf
    refine zg_iast (ws' := [(q0, .inr (7, [.ref q1, .ref q2, .int w2, .ref q3, .int w4, .int w5, .ref q4, .int w7, .ref q5, .ref q6, .ref q7, .int w11, .int w12, .int w13, .int w14, .ref q8, .int w16])), (q1, .inl (G.2.2.1, 946, .inl w0)), (q2, .inl (G.2.2.1, 5676, .inl w1)), (q3, .inl (G.2.2.1, 60, .inl w3)), (q4, .inl (G.2.2.1, 201, .inl w6)), (q5, .inl (G.2.2.1, 201, .inl f10)), (q6, .inl (G.2.2.1, 201, .inl w9)), (q7, .inl (G.2.2.1, 201, .inl w10)), (q8, .inl (G.2.2.1, 201, .inl w15))]) X 5 rfl hin (by subst ef10; rfl) dX8_segment_114 ?_
    refine zg_aload_n X dX8_segment_115 rfl 0 rfl ?_
    refine zg_get (C := RX8) (T := TX8) (N := 17) X 0 9 hiX8 rfl rfl (by decide) hw5 rfl dX8_segment_116 ?_
    refine zg_aload_n X dX8_segment_119 rfl 0 rfl ?_
    refine zg_get (C := RX8) (T := TX8) (N := 17) X 0 11 hiX8 rfl rfl (by decide) hw4 rfl dX8_segment_120 ?_
    refine zg_iload_n X dX8_segment_123 rfl 2 rfl ?_
    refine zg_iload_n X dX8_segment_124 rfl 1 rfl ?_
    refine zg_isub X dX8_segment_125 ?_
    obtain ⟨x11, ex11, hf⟩ := pl_l hf
    refine zg_topi ex11 ?_
    obtain ⟨hin, hf⟩ := pl_in hf
    obtain ⟨f12, ef12, hf⟩ := pl_l hf
    refine zg_iast (ws' := [(q0, .inr (7, [.ref q1, .ref q2, .int w2, .ref q3, .int w4, .int w5, .ref q4, .int w7, .ref q5, .ref q6, .ref q7, .int w11, .int w12, .int w13, .int w14, .ref q8, .int w16])), (q1, .inl (G.2.2.1, 946, .inl w0)), (q2, .inl (G.2.2.1, 5676, .inl w1)), (q3, .inl (G.2.2.1, 60, .inl w3)), (q4, .inl (G.2.2.1, 201, .inl w6)), (q5, .inl (G.2.2.1, 201, .inl f10)), (q6, .inl (G.2.2.1, 201, .inl f12)), (q7, .inl (G.2.2.1, 201, .inl w10)), (q8, .inl (G.2.2.1, 201, .inl w15))]) X 6 rfl hin (by subst ef12; rfl) dX8_segment_126 ?_
    refine zg_aload_n X dX8_segment_127 rfl 0 rfl ?_
    refine zg_get (C := RX8) (T := TX8) (N := 17) X 0 10 hiX8 rfl rfl (by decide) hw6 rfl dX8_segment_128 ?_
    refine zg_aload_n X dX8_segment_131 rfl 0 rfl ?_
    refine zg_get (C := RX8) (T := TX8) (N := 17) X 0 11 hiX8 rfl rfl (by decide) hw4 rfl dX8_segment_132 ?_
    refine zg_iload_n X dX8_segment_135 rfl 3 rfl ?_
    obtain ⟨hin, hf⟩ := pl_in hf
    obtain ⟨f13, ef13, hf⟩ := pl_l hf
    refine zg_iast (ws' := [(q0, .inr (7, [.ref q1, .ref q2, .int w2, .ref q3, .int w4, .int w5, .ref q4, .int w7, .ref q5, .ref q6, .ref q7, .int w11, .int w12, .int w13, .int w14, .ref q8, .int w16])), (q1, .inl (G.2.2.1, 946, .inl w0)), (q2, .inl (G.2.2.1, 5676, .inl w1)), (q3, .inl (G.2.2.1, 60, .inl w3)), (q4, .inl (G.2.2.1, 201, .inl w6)), (q5, .inl (G.2.2.1, 201, .inl f10)), (q6, .inl (G.2.2.1, 201, .inl f12)), (q7, .inl (G.2.2.1, 201, .inl f13)), (q8, .inl (G.2.2.1, 201, .inl w15))]) X 7 rfl hin (by subst ef13; rfl) dX8_segment_136 ?_
    refine zg_aload_n X dX8_segment_137 rfl 0 rfl ?_
    refine zg_dup X dX8_segment_138 rfl ?_
    refine zg_get (C := RX8) (T := TX8) (N := 17) X 0 11 hiX8 rfl rfl (by decide) hw4 rfl dX8_segment_139 ?_
    refine zg_pc 142 rfl ?_
    refine zg_iconst (v := 1) X dX8_segment_142 (by decide) ?_
    refine zg_iadd X dX8_segment_143 ?_
    obtain ⟨x14, ex14, hf⟩ := pl_l hf
    refine zg_topi ex14 ?_
    refine zg_put (C := RX8) (T := TX8) (N := 17) (ty := .int) (ws' := [(q0, .inr (7, [.ref q1, .ref q2, .int w2, .ref q3, .int w4, .int w5, .ref q4, .int w7, .ref q5, .ref q6, .ref q7, .int x14, .int w12, .int w13, .int w14, .ref q8, .int w16])), (q1, .inl (G.2.2.1, 946, .inl w0)), (q2, .inl (G.2.2.1, 5676, .inl w1)), (q3, .inl (G.2.2.1, 60, .inl w3)), (q4, .inl (G.2.2.1, 201, .inl w6)), (q5, .inl (G.2.2.1, 201, .inl f10)), (q6, .inl (G.2.2.1, 201, .inl f12)), (q7, .inl (G.2.2.1, 201, .inl f13)), (q8, .inl (G.2.2.1, 201, .inl w15))]) X 0 11 hiX8 tyX8 tyX8_ok nmX8 rfl rfl (by decide) hw4 rfl (by decide +kernel) rfl rfl (Nat.le_of_ble_eq_true rfl) rfl dX8_segment_144 ?_
    refine zg_iload_n X dX8_segment_147 rfl 1 rfl ?_
    refine zg_istore (L' := [(4, .int y1), (0, .ref q0), (1, .int y1), (2, .int y2), (3, .int y3)]) X dX8_segment_148 (by decide) rfl ?_
    refine zg_loc [1, 3, 0] rfl ?_
    exact hL150 fu y2 y1 w0 w1 w2 w3 w4 w5 w6 w7 f10 f12 f13 x14 w12 w13 w14 w15 w16 hf
  have hb103 : ∀ (y1 : Int32) (y2 : Int32) (z0 : Int32) (z1 : Int32) (w0 : (Nat → Int32)) (w1 : (Nat → Int32)) (w2 : Int32) (w3 : (Nat → Int32)) (w4 : Int32) (w5 : Int32) (w6 : (Nat → Int32)) (w7 : Int32) (w8 : (Nat → Int32)) (w9 : (Nat → Int32)) (w10 : (Nat → Int32)) (w11 : Int32) (w12 : Int32) (w13 : Int32) (w14 : Int32) (w15 : (Nat → Int32)) (w16 : Int32), zf_X8_segment_b103 fu v0 y1 y2 z0 z1 w0 w1 w2 w3 w4 w5 w6 w7 w8 w9 w10 w11 w12 w13 w14 w15 w16 = some res → zgGd G Z ({ frames := 2, cells := 0, slots := 0, locals := 50 } : Room) 0 0 5 [(q0, .inr (7, [.ref q1, .ref q2, .int w2, .ref q3, .int w4, .int w5, .ref q4, .int w7, .ref q5, .ref q6, .ref q7, .int w11, .int w12, .int w13, .int w14, .ref q8, .int w16])), (q1, .inl (G.2.2.1, 946, .inl w0)), (q2, .inl (G.2.2.1, 5676, .inl w1)), (q3, .inl (G.2.2.1, 60, .inl w3)), (q4, .inl (G.2.2.1, 201, .inl w6)), (q5, .inl (G.2.2.1, 201, .inl w8)), (q6, .inl (G.2.2.1, 201, .inl w9)), (q7, .inl (G.2.2.1, 201, .inl w10)), (q8, .inl (G.2.2.1, 201, .inl w15))] 103 [(0, .ref q0), (1, .int y1), (2, .int y2)] [.int z1, .int z0] := by
    intro y1 y2 z0 z1 w0 w1 w2 w3 w4 w5 w6 w7 w8 w9 w10 w11 w12 w13 w14 w15 w16 hf
    unfold zf_X8_segment_b103 at hf
    refine zg_iadd X dX8_segment_103 ?_
    obtain ⟨x21, ex21, hf⟩ := pl_l hf
    refine zg_topi ex21 ?_
    refine zg_istore_n (L' := [(3, .int x21), (0, .ref q0), (1, .int y1), (2, .int y2)]) X dX8_segment_104 rfl (by decide) rfl ?_
    refine zg_loc [1, 2, 3, 0] rfl ?_
    exact hb105 y1 y2 x21 w0 w1 w2 w3 w4 w5 w6 w7 w8 w9 w10 w11 w12 w13 w14 w15 w16 hf
  have hb86 : ∀ (y1 : Int32) (y2 : Int32) (y4 : Int32) (z1 : Int32) (w0 : (Nat → Int32)) (w1 : (Nat → Int32)) (w2 : Int32) (w3 : (Nat → Int32)) (w4 : Int32) (w5 : Int32) (w6 : (Nat → Int32)) (w7 : Int32) (w8 : (Nat → Int32)) (w9 : (Nat → Int32)) (w10 : (Nat → Int32)) (w11 : Int32) (w12 : Int32) (w13 : Int32) (w14 : Int32) (w15 : (Nat → Int32)) (w16 : Int32), zf_X8_segment_b86 fu v0 y1 y2 y4 z1 w0 w1 w2 w3 w4 w5 w6 w7 w8 w9 w10 w11 w12 w13 w14 w15 w16 = some res → zgGd G Z ({ frames := 2, cells := 0, slots := 0, locals := 50 } : Room) 0 0 5 [(q0, .inr (7, [.ref q1, .ref q2, .int w2, .ref q3, .int w4, .int w5, .ref q4, .int w7, .ref q5, .ref q6, .ref q7, .int w11, .int w12, .int w13, .int w14, .ref q8, .int w16])), (q1, .inl (G.2.2.1, 946, .inl w0)), (q2, .inl (G.2.2.1, 5676, .inl w1)), (q3, .inl (G.2.2.1, 60, .inl w3)), (q4, .inl (G.2.2.1, 201, .inl w6)), (q5, .inl (G.2.2.1, 201, .inl w8)), (q6, .inl (G.2.2.1, 201, .inl w9)), (q7, .inl (G.2.2.1, 201, .inl w10)), (q8, .inl (G.2.2.1, 201, .inl w15))] 86 [(0, .ref q0), (1, .int y1), (2, .int y2), (4, .int y4)] [.int z1, .ref q0] := by
    intro y1 y2 y4 z1 w0 w1 w2 w3 w4 w5 w6 w7 w8 w9 w10 w11 w12 w13 w14 w15 w16 hf
    unfold zf_X8_segment_b86 at hf
    refine zg_put (C := RX8) (T := TX8) (N := 17) (ty := .int) (ws' := [(q0, .inr (7, [.ref q1, .ref q2, .int w2, .ref q3, .int w4, .int w5, .ref q4, .int w7, .ref q5, .ref q6, .ref q7, .int w11, .int w12, .int w13, .int z1, .ref q8, .int w16])), (q1, .inl (G.2.2.1, 946, .inl w0)), (q2, .inl (G.2.2.1, 5676, .inl w1)), (q3, .inl (G.2.2.1, 60, .inl w3)), (q4, .inl (G.2.2.1, 201, .inl w6)), (q5, .inl (G.2.2.1, 201, .inl w8)), (q6, .inl (G.2.2.1, 201, .inl w9)), (q7, .inl (G.2.2.1, 201, .inl w10)), (q8, .inl (G.2.2.1, 201, .inl w15))]) X 0 14 hiX8 tyX8 tyX8_ok nmX8 rfl rfl (by decide) hw2 rfl (by decide +kernel) rfl rfl (Nat.le_of_ble_eq_true rfl) rfl dX8_segment_86 ?_
    refine zg_aload_n X dX8_segment_89 rfl 0 rfl ?_
    refine zg_get (C := RX8) (T := TX8) (N := 17) X 0 14 hiX8 rfl rfl (by decide) hw2 rfl dX8_segment_90 ?_
    refine zg_iload X dX8_segment_93 3 rfl ?_
    refine zg_if_eq (tgt := 102) X dX8_segment_95 (by decide) (fun c15 => ?_) (fun c15 => ?_)
    · have hf := pl_t c15 hf
      refine zg_iconst (v := 4) X dX8_segment_102 (by decide) ?_
      refine zg_loc [0, 1, 2] rfl ?_
      exact hb103 y1 y2 z1 4 w0 w1 w2 w3 w4 w5 w6 w7 w8 w9 w10 w11 w12 w13 z1 w15 w16 hf
    · have hf := pl_f c15 hf
      refine zg_iconst (v := 2) X dX8_segment_98 (by decide) ?_
      refine zg_goto (tgt := 103) X dX8_segment_99 (by decide) ?_
      refine zg_loc [0, 1, 2] rfl ?_
      exact hb103 y1 y2 z1 2 w0 w1 w2 w3 w4 w5 w6 w7 w8 w9 w10 w11 w12 w13 z1 w15 w16 hf
  have hb31 : ∀ (y1 : Int32) (y2 : Int32) (w0 : (Nat → Int32)) (w1 : (Nat → Int32)) (w2 : Int32) (w3 : (Nat → Int32)) (w4 : Int32) (w5 : Int32) (w6 : (Nat → Int32)) (w7 : Int32) (w8 : (Nat → Int32)) (w9 : (Nat → Int32)) (w10 : (Nat → Int32)) (w11 : Int32) (w12 : Int32) (w13 : Int32) (w14 : Int32) (w15 : (Nat → Int32)) (w16 : Int32), zf_X8_segment_b31 fu v0 y1 y2 w0 w1 w2 w3 w4 w5 w6 w7 w8 w9 w10 w11 w12 w13 w14 w15 w16 = some res → zgGd G Z ({ frames := 2, cells := 0, slots := 0, locals := 50 } : Room) 0 0 5 [(q0, .inr (7, [.ref q1, .ref q2, .int w2, .ref q3, .int w4, .int w5, .ref q4, .int w7, .ref q5, .ref q6, .ref q7, .int w11, .int w12, .int w13, .int w14, .ref q8, .int w16])), (q1, .inl (G.2.2.1, 946, .inl w0)), (q2, .inl (G.2.2.1, 5676, .inl w1)), (q3, .inl (G.2.2.1, 60, .inl w3)), (q4, .inl (G.2.2.1, 201, .inl w6)), (q5, .inl (G.2.2.1, 201, .inl w8)), (q6, .inl (G.2.2.1, 201, .inl w9)), (q7, .inl (G.2.2.1, 201, .inl w10)), (q8, .inl (G.2.2.1, 201, .inl w15))] 31 [(0, .ref q0), (1, .int y1), (2, .int y2)] [] := by
    intro y1 y2 w0 w1 w2 w3 w4 w5 w6 w7 w8 w9 w10 w11 w12 w13 w14 w15 w16 hf
    unfold zf_X8_segment_b31 at hf
    refine zg_aload_n X dX8_segment_31 rfl 0 rfl ?_
    refine zg_get (C := RX8) (T := TX8) (N := 17) X 0 14 hiX8 rfl rfl (by decide) hw2 rfl dX8_segment_32 ?_
    refine zg_istore_n (L' := [(3, .int w14), (0, .ref q0), (1, .int y1), (2, .int y2)]) X dX8_segment_35 rfl (by decide) rfl ?_
    refine zg_aload_n X dX8_segment_36 rfl 1 rfl ?_
    refine zg_iload_n X dX8_segment_37 rfl 2 rfl ?_
    refine zg_iload_n X dX8_segment_38 rfl 3 rfl ?_
    refine zg_iload_n X dX8_segment_39 rfl 2 rfl ?_
    refine zg_isub X dX8_segment_40 ?_
    refine zg_aload_n X dX8_segment_41 rfl 1 rfl ?_
    refine zg_get (C := RX8) (T := TX8) (N := 17) X 0 14 hiX8 rfl rfl (by decide) hw2 rfl dX8_segment_42 ?_
    obtain ⟨b6, hb6, hf⟩ := pl_b hf
    refine zg_cP1 X (zg_runV X (zc_X8_isPlausible G q0 q1 q2 q3 q4 q5 q6 q7 q8 (w0, w1, w2, w3, w4, w5, w6, w7, w8, w9, w10, w11, w12, w13, w14, w15, w16) y1 (y2 - y1) w14 fu b6 hb6) gX8_segment_X8_isPlausible rfl zh_X8_isPlausible ⟨rfl, rfl⟩ ⟨Nat.le_of_ble_eq_true rfl, Nat.le_of_ble_eq_true rfl⟩ rfl rfl rfl (Nat.le_of_ble_eq_true rfl) ⟨Nat.le_of_ble_eq_true rfl, Nat.le_of_ble_eq_true rfl⟩ [0, 1, 2, 3, 4, 5, 6, 7, 8] (by decide) rfl rfl dX8_segment_45) rfl ?_
    refine zg_if_ne (tgt := 105) X dX8_segment_48 (by decide) (fun c7 => ?_) (fun c7 => ?_)
    · have hf := pl_f c7 hf
      refine zg_loc [1, 2, 3, 0] rfl ?_
      exact hb105 y1 y2 w14 w0 w1 w2 w3 w4 w5 w6 w7 w8 w9 w10 w11 w12 w13 w14 w15 w16 hf
    · have hf := pl_t c7 hf
      refine zg_aload_n X dX8_segment_51 rfl 1 rfl ?_
      refine zg_iload_n X dX8_segment_52 rfl 2 rfl ?_
      refine zg_iload_n X dX8_segment_53 rfl 3 rfl ?_
      refine zg_iload_n X dX8_segment_54 rfl 2 rfl ?_
      refine zg_isub X dX8_segment_55 ?_
      refine zg_iconst (v := 1) X dX8_segment_56 (by decide) ?_
      refine zg_aload_n X dX8_segment_57 rfl 1 rfl ?_
      refine zg_get (C := RX8) (T := TX8) (N := 17) X 0 14 hiX8 rfl rfl (by decide) hw2 rfl dX8_segment_58 ?_
      refine zg_isub X dX8_segment_61 ?_
      obtain ⟨b8, hb8, hf⟩ := pl_b hf
      refine zg_cP1 X (zg_runV X (zc_X8_isPlausible G q0 q1 q2 q3 q4 q5 q6 q7 q8 (w0, w1, w2, w3, w4, w5, w6, w7, w8, w9, w10, w11, w12, w13, w14, w15, w16) y1 (y2 - y1) ((1 : Int32) - w14) fu b8 hb8) gX8_segment_X8_isPlausible rfl zh_X8_isPlausible ⟨rfl, rfl⟩ ⟨Nat.le_of_ble_eq_true rfl, Nat.le_of_ble_eq_true rfl⟩ rfl rfl rfl (Nat.le_of_ble_eq_true rfl) ⟨Nat.le_of_ble_eq_true rfl, Nat.le_of_ble_eq_true rfl⟩ [0, 1, 2, 3, 4, 5, 6, 7, 8] (by decide) rfl rfl dX8_segment_62) rfl ?_
      refine zg_istore (L' := [(4, .int b8), (3, .int w14), (0, .ref q0), (1, .int y1), (2, .int y2)]) X dX8_segment_65 (by decide) rfl ?_
      refine zg_aload_n X dX8_segment_67 rfl 2 rfl ?_
      refine zg_iload X dX8_segment_68 0 rfl ?_
      refine zg_if_eq (tgt := 82) X dX8_segment_70 (by decide) (fun c9 => ?_) (fun c9 => ?_)
      · have hf := pl_t c9 hf
        refine zg_aload_n X dX8_segment_82 rfl 2 rfl ?_
        refine zg_get (C := RX8) (T := TX8) (N := 17) X 0 14 hiX8 rfl rfl (by decide) hw2 rfl dX8_segment_83 ?_
        refine zg_loc [2, 3, 4, 0] rfl ?_
        exact hb86 y1 y2 b8 w14 w0 w1 w2 w3 w4 w5 w6 w7 w8 w9 w10 w11 w12 w13 w14 w15 w16 hf
      · have hf := pl_f c9 hf
        refine zg_iconst (v := 1) X dX8_segment_73 (by decide) ?_
        refine zg_aload_n X dX8_segment_74 rfl 2 rfl ?_
        refine zg_get (C := RX8) (T := TX8) (N := 17) X 0 14 hiX8 rfl rfl (by decide) hw2 rfl dX8_segment_75 ?_
        refine zg_isub X dX8_segment_78 ?_
        refine zg_goto (tgt := 86) X dX8_segment_79 (by decide) ?_
        refine zg_loc [2, 3, 4, 0] rfl ?_
        exact hb86 y1 y2 b8 ((1 : Int32) - w14) w0 w1 w2 w3 w4 w5 w6 w7 w8 w9 w10 w11 w12 w13 w14 w15 w16 hf
  have hL2 : ∀ (n : Nat) (y1 : Int32) (y2 : Int32) (w0 : (Nat → Int32)) (w1 : (Nat → Int32)) (w2 : Int32) (w3 : (Nat → Int32)) (w4 : Int32) (w5 : Int32) (w6 : (Nat → Int32)) (w7 : Int32) (w8 : (Nat → Int32)) (w9 : (Nat → Int32)) (w10 : (Nat → Int32)) (w11 : Int32) (w12 : Int32) (w13 : Int32) (w14 : Int32) (w15 : (Nat → Int32)) (w16 : Int32), zf_X8_segment_L2 fu v0 n y1 y2 w0 w1 w2 w3 w4 w5 w6 w7 w8 w9 w10 w11 w12 w13 w14 w15 w16 = some res → zgGd G Z ({ frames := 2, cells := 0, slots := 0, locals := 50 } : Room) 0 0 5 [(q0, .inr (7, [.ref q1, .ref q2, .int w2, .ref q3, .int w4, .int w5, .ref q4, .int w7, .ref q5, .ref q6, .ref q7, .int w11, .int w12, .int w13, .int w14, .ref q8, .int w16])), (q1, .inl (G.2.2.1, 946, .inl w0)), (q2, .inl (G.2.2.1, 5676, .inl w1)), (q3, .inl (G.2.2.1, 60, .inl w3)), (q4, .inl (G.2.2.1, 201, .inl w6)), (q5, .inl (G.2.2.1, 201, .inl w8)), (q6, .inl (G.2.2.1, 201, .inl w9)), (q7, .inl (G.2.2.1, 201, .inl w10)), (q8, .inl (G.2.2.1, 201, .inl w15))] 2 [(0, .ref q0), (1, .int y1), (2, .int y2)] [] := by
    intro n
    induction n with
    | zero =>
      intro y1 y2 w0 w1 w2 w3 w4 w5 w6 w7 w8 w9 w10 w11 w12 w13 w14 w15 w16 hf
      rw [zf_X8_segment_L2] at hf
      cases hf
    | succ n2 ih2 =>
      intro y1 y2 w0 w1 w2 w3 w4 w5 w6 w7 w8 w9 w10 w11 w12 w13 w14 w15 w16 hf
      rw [zf_X8_segment_L2] at hf
      refine zg_iload_n X dX8_segment_2 rfl 2 rfl ?_
      refine zg_aload_n X dX8_segment_3 rfl 0 rfl ?_
      refine zg_get (C := RX8) (T := TX8) (N := 17) X 0 16 hiX8 rfl rfl (by decide) hw0 rfl dX8_segment_4 ?_
      refine zg_icmp_ge (tgt := 31) X dX8_segment_7 (by decide) (fun c1 => ?_) (fun c1 => ?_)
      · have hf := pl_t c1 hf
        exact hb31 y1 y2 w0 w1 w2 w3 w4 w5 w6 w7 w8 w9 w10 w11 w12 w13 w14 w15 w16 hf
      · have hf := pl_f c1 hf
        refine zg_aload_n X dX8_segment_10 rfl 0 rfl ?_
        refine zg_get (C := RX8) (T := TX8) (N := 17) X 0 15 hiX8 rfl rfl (by decide) hw1 rfl dX8_segment_11 ?_
        refine zg_iload_n X dX8_segment_14 rfl 2 rfl ?_
        obtain ⟨hin, hf⟩ := pl_in hf
        refine zg_iald X 8 rfl hin dX8_segment_15 ?_
        obtain ⟨x2, ex2, hf⟩ := pl_l hf
        refine zg_topi ex2 ?_
        refine zg_iconst (v := 1) X dX8_segment_16 (by decide) ?_
        refine zg_bipush (v := 26) X dX8_segment_17 (by decide) ?_
        obtain ⟨b3, hb3, hf⟩ := pl_b hf
        refine zg_cP1 X (zg_runS X (zc_X8_in G x2 1 26 fu b3 hb3) gX8_segment_X8_in rfl zh_X8_in.2 ⟨rfl, rfl⟩ ⟨Nat.le_of_ble_eq_true rfl, Nat.le_of_ble_eq_true rfl⟩ rfl (Nat.le_of_ble_eq_true rfl) ⟨Nat.le_of_ble_eq_true rfl, Nat.le_of_ble_eq_true rfl⟩ [] (by decide) rfl rfl dX8_segment_19) rfl ?_
        refine zg_if_eq (tgt := 31) X dX8_segment_22 (by decide) (fun c4 => ?_) (fun c4 => ?_)
        · have hf := pl_t c4 hf
          exact hb31 y1 y2 w0 w1 w2 w3 w4 w5 w6 w7 w8 w9 w10 w11 w12 w13 w14 w15 w16 hf
        · have hf := pl_f c4 hf
          obtain ⟨x5, ex5, hf⟩ := pl_l hf
          refine zg_iinc (v := x5) (L' := [(2, .int x5), (0, .ref q0), (1, .int y1)]) X dX8_segment_25 (j := 2) rfl (by rw [ex5]; rfl) (by decide) rfl ?_
          refine zg_goto (tgt := 2) X dX8_segment_28 (by decide) ?_
          refine zg_loc [1, 2, 0] rfl ?_
          exact ih2 y1 x5 w0 w1 w2 w3 w4 w5 w6 w7 w8 w9 w10 w11 w12 w13 w14 w15 w16 hf
  unfold zf_X8_segment at hf
  refine zg_iload_n X dX8_segment_0 rfl 1 rfl ?_
  refine zg_istore_n (L' := [(2, .int a1), (0, .ref q0), (1, .int a1)]) X dX8_segment_1 rfl (by decide) rfl ?_
  refine zg_loc [1, 2, 0] rfl ?_
  exact hL2 fu a1 a1 v0.1 v0.2.1 v0.2.2.1 v0.2.2.2.1 v0.2.2.2.2.1 v0.2.2.2.2.2.1 v0.2.2.2.2.2.2.1 v0.2.2.2.2.2.2.2.1 v0.2.2.2.2.2.2.2.2.1 v0.2.2.2.2.2.2.2.2.2.1 v0.2.2.2.2.2.2.2.2.2.2.1 v0.2.2.2.2.2.2.2.2.2.2.2.1 v0.2.2.2.2.2.2.2.2.2.2.2.2.1 v0.2.2.2.2.2.2.2.2.2.2.2.2.2.1 v0.2.2.2.2.2.2.2.2.2.2.2.2.2.2.1 v0.2.2.2.2.2.2.2.2.2.2.2.2.2.2.2.1 v0.2.2.2.2.2.2.2.2.2.2.2.2.2.2.2.2 hf
