theorem zh_X8_isIn : yX8_isIn.cls = RX8 ∧ yX8_isIn.cls ≠ "java/lang/invoke/MethodHandle" ∧ yX8_isIn.cls ≠ "java/lang/invoke/VarHandle" ∧ (parseMethodDescriptor yX8_isIn.desc).map (fun d => d.parameters.length) = some 1 := by decide +kernel
set_option maxHeartbeats 8000000 in
set_option maxRecDepth 100000 in
theorem zc_X8_isIn (G : zgG) (q0 q1 q2 q3 q4 q5 q6 q7 q8 : Nat) (v0 : zModel) (a1 : Int32) (fu : Nat) (res : Int32) (hf : zf_X8_isIn fu v0 a1 = some res) : zgCt G yX8_isIn wsX8_isIn ({ frames := 1, cells := 0, slots := 0, locals := 22 } : Room) [.ref q0, .int a1] [(q0, .inr (7, [.ref q1, .ref q2, .int v0.2.2.1, .ref q3, .int v0.2.2.2.2.1, .int v0.2.2.2.2.2.1, .ref q4, .int v0.2.2.2.2.2.2.2.1, .ref q5, .ref q6, .ref q7, .int v0.2.2.2.2.2.2.2.2.2.2.2.1, .int v0.2.2.2.2.2.2.2.2.2.2.2.2.1, .int v0.2.2.2.2.2.2.2.2.2.2.2.2.2.1, .int v0.2.2.2.2.2.2.2.2.2.2.2.2.2.2.1, .ref q8, .int v0.2.2.2.2.2.2.2.2.2.2.2.2.2.2.2.2])), (q1, .inl (G.2.2.1, 946, .inl v0.1)), (q2, .inl (G.2.2.1, 5676, .inl v0.2.1)), (q3, .inl (G.2.2.1, 60, .inl v0.2.2.2.1)), (q4, .inl (G.2.2.1, 201, .inl v0.2.2.2.2.2.2.1)), (q5, .inl (G.2.2.1, 201, .inl v0.2.2.2.2.2.2.2.2.1)), (q6, .inl (G.2.2.1, 201, .inl v0.2.2.2.2.2.2.2.2.2.1)), (q7, .inl (G.2.2.1, 201, .inl v0.2.2.2.2.2.2.2.2.2.2.1)), (q8, .inl (G.2.2.1, 201, .inl v0.2.2.2.2.2.2.2.2.2.2.2.2.2.2.2.1))] (fun _ : Unit => some (.int res)) (fun _ => [(q0, .inr (7, [.ref q1, .ref q2, .int v0.2.2.1, .ref q3, .int v0.2.2.2.2.1, .int v0.2.2.2.2.2.1, .ref q4, .int v0.2.2.2.2.2.2.2.1, .ref q5, .ref q6, .ref q7, .int v0.2.2.2.2.2.2.2.2.2.2.2.1, .int v0.2.2.2.2.2.2.2.2.2.2.2.2.1, .int v0.2.2.2.2.2.2.2.2.2.2.2.2.2.1, .int v0.2.2.2.2.2.2.2.2.2.2.2.2.2.2.1, .ref q8, .int v0.2.2.2.2.2.2.2.2.2.2.2.2.2.2.2.2])), (q1, .inl (G.2.2.1, 946, .inl v0.1)), (q2, .inl (G.2.2.1, 5676, .inl v0.2.1)), (q3, .inl (G.2.2.1, 60, .inl v0.2.2.2.1)), (q4, .inl (G.2.2.1, 201, .inl v0.2.2.2.2.2.2.1)), (q5, .inl (G.2.2.1, 201, .inl v0.2.2.2.2.2.2.2.2.1)), (q6, .inl (G.2.2.1, 201, .inl v0.2.2.2.2.2.2.2.2.2.1)), (q7, .inl (G.2.2.1, 201, .inl v0.2.2.2.2.2.2.2.2.2.2.1)), (q8, .inl (G.2.2.1, 201, .inl v0.2.2.2.2.2.2.2.2.2.2.2.2.2.2.2.1))]) 0 0 := by
  have hw0 : Cond.fieldLink RX8 7 "TelexReceiverModel" "s" "[I" ∈ wsX8_isIn := by decide +kernel
  have hiX8 : ∀ w ∈ u_ws RX8 TX8 17, w ∈ wsX8_isIn := by decide +kernel
  refine zg_of (own := RX8) (cc := cX8_isIn) (nL := 2) (ret := (some .boolean)) (by decide +kernel) rfl rfl (Nat.le_of_ble_eq_true rfl) (fun Z X hF => ?_)
  show zgGd G Z _ 0 0 2 _ 0 [(0, .ref q0), (1, .int a1)] []
  unfold zf_X8_isIn at hf
  refine zg_iload_n X dX8_isIn_0 rfl 1 rfl ?_
  refine zg_iconst (v := 0) X dX8_isIn_1 (by decide) ?_
  refine zg_aload_n X dX8_isIn_2 rfl 0 rfl ?_
  refine zg_get (C := RX8) (T := TX8) (N := 17) X 0 0 hiX8 rfl rfl (by decide) hw0 rfl dX8_isIn_3 ?_
  refine zg_sipush (v := 805) X dX8_isIn_6 (by decide) ?_
  refine zg_iald X 1 rfl (by unfold vp_in; decide) dX8_isIn_9 ?_
  obtain ⟨x1, ex1, hf⟩ := pl_l hf
  refine zg_topi ex1 ?_
  refine zg_iconst (v := 1) X dX8_isIn_10 (by decide) ?_
  refine zg_isub X dX8_isIn_11 ?_
  obtain ⟨b2, hb2, hf⟩ := pl_b hf
  refine zg_cP1 X (zg_runS X (zc_X8_in G a1 0 (x1 - (1 : Int32)) fu b2 hb2) gX8_isIn_X8_in rfl zh_X8_in.2 ⟨rfl, rfl⟩ ⟨Nat.le_of_ble_eq_true rfl, Nat.le_of_ble_eq_true rfl⟩ rfl (Nat.le_of_ble_eq_true rfl) ⟨Nat.le_of_ble_eq_true rfl, Nat.le_of_ble_eq_true rfl⟩ [] (by decide) rfl rfl dX8_isIn_12) rfl ?_
  obtain ⟨hb3, hf⟩ := pl_o hf
  have hf := Option.some.inj hf
  subst hf
  exact zg_iret X hF rfl (pl_nz hb3) () rfl rfl (Nat.le_of_ble_eq_true rfl) (Nat.le_of_ble_eq_true rfl) dX8_isIn_15
theorem zh_X8_forget : yX8_forget.cls = RX8 ∧ yX8_forget.cls ≠ "java/lang/invoke/MethodHandle" ∧ yX8_forget.cls ≠ "java/lang/invoke/VarHandle" ∧ (parseMethodDescriptor yX8_forget.desc).map (fun d => d.parameters.length) = some 1 := by decide +kernel
set_option maxHeartbeats 8000000 in
set_option maxRecDepth 100000 in
theorem zc_X8_forget (G : zgG) (q0 q1 q2 q3 q4 q5 q6 q7 q8 : Nat) (v0 : zModel) (a1 : Int32) (fu : Nat) (res : (Int32 × zModel)) (hf : zf_X8_forget fu v0 a1 = some res) : zgCt G yX8_forget wsX8_forget ({ frames := 2, cells := 0, slots := 0, locals := 43 } : Room) [.ref q0, .int a1] [(q0, .inr (7, [.ref q1, .ref q2, .int v0.2.2.1, .ref q3, .int v0.2.2.2.2.1, .int v0.2.2.2.2.2.1, .ref q4, .int v0.2.2.2.2.2.2.2.1, .ref q5, .ref q6, .ref q7, .int v0.2.2.2.2.2.2.2.2.2.2.2.1, .int v0.2.2.2.2.2.2.2.2.2.2.2.2.1, .int v0.2.2.2.2.2.2.2.2.2.2.2.2.2.1, .int v0.2.2.2.2.2.2.2.2.2.2.2.2.2.2.1, .ref q8, .int v0.2.2.2.2.2.2.2.2.2.2.2.2.2.2.2.2])), (q1, .inl (G.2.2.1, 946, .inl v0.1)), (q2, .inl (G.2.2.1, 5676, .inl v0.2.1)), (q3, .inl (G.2.2.1, 60, .inl v0.2.2.2.1)), (q4, .inl (G.2.2.1, 201, .inl v0.2.2.2.2.2.2.1)), (q5, .inl (G.2.2.1, 201, .inl v0.2.2.2.2.2.2.2.2.1)), (q6, .inl (G.2.2.1, 201, .inl v0.2.2.2.2.2.2.2.2.2.1)), (q7, .inl (G.2.2.1, 201, .inl v0.2.2.2.2.2.2.2.2.2.2.1)), (q8, .inl (G.2.2.1, 201, .inl v0.2.2.2.2.2.2.2.2.2.2.2.2.2.2.2.1))] (fun _ : Unit => some (.int res.1)) (fun _ => [(q0, .inr (7, [.ref q1, .ref q2, .int res.2.2.2.1, .ref q3, .int res.2.2.2.2.2.1, .int res.2.2.2.2.2.2.1, .ref q4, .int res.2.2.2.2.2.2.2.2.1, .ref q5, .ref q6, .ref q7, .int res.2.2.2.2.2.2.2.2.2.2.2.2.1, .int res.2.2.2.2.2.2.2.2.2.2.2.2.2.1, .int res.2.2.2.2.2.2.2.2.2.2.2.2.2.2.1, .int res.2.2.2.2.2.2.2.2.2.2.2.2.2.2.2.1, .ref q8, .int res.2.2.2.2.2.2.2.2.2.2.2.2.2.2.2.2.2])), (q1, .inl (G.2.2.1, 946, .inl res.2.1)), (q2, .inl (G.2.2.1, 5676, .inl res.2.2.1)), (q3, .inl (G.2.2.1, 60, .inl res.2.2.2.2.1)), (q4, .inl (G.2.2.1, 201, .inl res.2.2.2.2.2.2.2.1)), (q5, .inl (G.2.2.1, 201, .inl res.2.2.2.2.2.2.2.2.2.1)), (q6, .inl (G.2.2.1, 201, .inl res.2.2.2.2.2.2.2.2.2.2.1)), (q7, .inl (G.2.2.1, 201, .inl res.2.2.2.2.2.2.2.2.2.2.2.1)), (q8, .inl (G.2.2.1, 201, .inl res.2.2.2.2.2.2.2.2.2.2.2.2.2.2.2.2.1))]) 0 0 := by
  have hw0 : Cond.fieldLink RX8 7 "TelexReceiverModel" "s" "[I" ∈ wsX8_forget := by decide +kernel
  have hiX8 : ∀ w ∈ u_ws RX8 TX8 17, w ∈ wsX8_forget := by decide +kernel
  refine zg_of (own := RX8) (cc := cX8_forget) (nL := 5) (ret := (some .int)) (by decide +kernel) rfl rfl (Nat.le_of_ble_eq_true rfl) (fun Z X hF => ?_)
  show zgGd G Z _ 0 0 5 _ 0 [(0, .ref q0), (1, .int a1)] []
  have hL51 : ∀ (n : Nat) (y2 : Int32) (y3 : Int32) (w0 : (Nat → Int32)) (w1 : (Nat → Int32)) (w2 : Int32) (w3 : (Nat → Int32)) (w4 : Int32) (w5 : Int32) (w6 : (Nat → Int32)) (w7 : Int32) (w8 : (Nat → Int32)) (w9 : (Nat → Int32)) (w10 : (Nat → Int32)) (w11 : Int32) (w12 : Int32) (w13 : Int32) (w14 : Int32) (w15 : (Nat → Int32)) (w16 : Int32), zf_X8_forget_L51 fu v0 n y2 y3 w0 w1 w2 w3 w4 w5 w6 w7 w8 w9 w10 w11 w12 w13 w14 w15 w16 = some res → zgGd G Z ({ frames := 2, cells := 0, slots := 0, locals := 43 } : Room) 0 0 5 [(q0, .inr (7, [.ref q1, .ref q2, .int w2, .ref q3, .int w4, .int w5, .ref q4, .int w7, .ref q5, .ref q6, .ref q7, .int w11, .int w12, .int w13, .int w14, .ref q8, .int w16])), (q1, .inl (G.2.2.1, 946, .inl w0)), (q2, .inl (G.2.2.1, 5676, .inl w1)), (q3, .inl (G.2.2.1, 60, .inl w3)), (q4, .inl (G.2.2.1, 201, .inl w6)), (q5, .inl (G.2.2.1, 201, .inl w8)), (q6, .inl (G.2.2.1, 201, .inl w9)), (q7, .inl (G.2.2.1, 201, .inl w10)), (q8, .inl (G.2.2.1, 201, .inl w15))] 51 [(0, .ref q0), (2, .int y2), (3, .int y3)] [] := by
    intro n
    induction n with
    | zero =>
      intro y2 y3 w0 w1 w2 w3 w4 w5 w6 w7 w8 w9 w10 w11 w12 w13 w14 w15 w16 hf
      rw [zf_X8_forget_L51] at hf
      cases hf
    | succ n51 ih51 =>
      have hL88 : ∀ (n : Nat) (y2 : Int32) (y3 : Int32) (y4 : Int32) (w0 : (Nat → Int32)) (w1 : (Nat → Int32)) (w2 : Int32) (w3 : (Nat → Int32)) (w4 : Int32) (w5 : Int32) (w6 : (Nat → Int32)) (w7 : Int32) (w8 : (Nat → Int32)) (w9 : (Nat → Int32)) (w10 : (Nat → Int32)) (w11 : Int32) (w12 : Int32) (w13 : Int32) (w14 : Int32) (w15 : (Nat → Int32)) (w16 : Int32), zf_X8_forget_L88 fu v0 (zf_X8_forget_L51 fu v0 n51) n y2 y3 y4 w0 w1 w2 w3 w4 w5 w6 w7 w8 w9 w10 w11 w12 w13 w14 w15 w16 = some res → zgGd G Z ({ frames := 2, cells := 0, slots := 0, locals := 43 } : Room) 0 0 5 [(q0, .inr (7, [.ref q1, .ref q2, .int w2, .ref q3, .int w4, .int w5, .ref q4, .int w7, .ref q5, .ref q6, .ref q7, .int w11, .int w12, .int w13, .int w14, .ref q8, .int w16])), (q1, .inl (G.2.2.1, 946, .inl w0)), (q2, .inl (G.2.2.1, 5676, .inl w1)), (q3, .inl (G.2.2.1, 60, .inl w3)), (q4, .inl (G.2.2.1, 201, .inl w6)), (q5, .inl (G.2.2.1, 201, .inl w8)), (q6, .inl (G.2.2.1, 201, .inl w9)), (q7, .inl (G.2.2.1, 201, .inl w10)), (q8, .inl (G.2.2.1, 201, .inl w15))] 88 [(0, .ref q0), (2, .int y2), (3, .int y3), (4, .int y4)] [] := by
        intro n
        induction n with
        | zero =>
          intro y2 y3 y4 w0 w1 w2 w3 w4 w5 w6 w7 w8 w9 w10 w11 w12 w13 w14 w15 w16 hf
          rw [zf_X8_forget_L88] at hf
          cases hf
        | succ n88 ih88 =>
          intro y2 y3 y4 w0 w1 w2 w3 w4 w5 w6 w7 w8 w9 w10 w11 w12 w13 w14 w15 w16 hf
          rw [zf_X8_forget_L88] at hf
          refine zg_iload X dX8_forget_88 3 rfl ?_
          refine zg_bipush (v := 6) X dX8_forget_90 (by decide) ?_
          refine zg_icmp_ge (tgt := 135) X dX8_forget_92 (by decide) (fun c16 => ?_) (fun c16 => ?_)
          · have hf := pl_t c16 hf
            obtain ⟨x17, ex17, hf⟩ := pl_l hf
            refine zg_iinc (v := x17) (L' := [(3, .int x17), (0, .ref q0), (2, .int y2), (4, .int y4)]) X dX8_forget_135 (j := 2) rfl (by rw [ex17]; rfl) (by decide) rfl ?_
            refine zg_goto (tgt := 51) X dX8_forget_138 (by decide) ?_
            refine zg_loc [1, 2, 0] rfl ?_
            exact ih51 y2 x17 w0 w1 w2 w3 w4 w5 w6 w7 w8 w9 w10 w11 w12 w13 w14 w15 w16 hf
          · have hf := pl_f c16 hf
            refine zg_aload_n X dX8_forget_95 rfl 0 rfl ?_
            refine zg_get (C := RX8) (T := TX8) (N := 17) X 0 0 hiX8 rfl rfl (by decide) hw0 rfl dX8_forget_96 ?_
            refine zg_sipush (v := 826) X dX8_forget_99 (by decide) ?_
            refine zg_bipush (v := 6) X dX8_forget_102 (by decide) ?_
            refine zg_iload_n X dX8_forget_104 rfl 2 rfl ?_
            refine zg_imul X dX8_forget_105 ?_
            refine zg_iadd X dX8_forget_106 ?_
            refine zg_iload X dX8_forget_107 3 rfl ?_
            refine zg_iadd X dX8_forget_109 ?_
            refine zg_aload_n X dX8_forget_110 rfl 0 rfl ?_
            refine zg_get (C := RX8) (T := TX8) (N := 17) X 0 0 hiX8 rfl rfl (by decide) hw0 rfl dX8_forget_111 ?_
            refine zg_sipush (v := 826) X dX8_forget_114 (by decide) ?_
            refine zg_bipush (v := 6) X dX8_forget_117 (by decide) ?_
            refine zg_iload_n X dX8_forget_119 rfl 2 rfl ?_
            refine zg_iconst (v := 1) X dX8_forget_120 (by decide) ?_
            refine zg_iadd X dX8_forget_121 ?_
            refine zg_imul X dX8_forget_122 ?_
            refine zg_iadd X dX8_forget_123 ?_
            refine zg_iload X dX8_forget_124 3 rfl ?_
            refine zg_iadd X dX8_forget_126 ?_
            obtain ⟨x18, ex18, hf⟩ := pl_l hf
            refine zg_topi ex18 ?_
            obtain ⟨hin, hf⟩ := pl_in hf
            refine zg_iald X 1 rfl hin dX8_forget_127 ?_
            obtain ⟨x19, ex19, hf⟩ := pl_l hf
            refine zg_topi ex19 ?_
            obtain ⟨hin, hf⟩ := pl_in hf
            obtain ⟨f20, ef20, hf⟩ := pl_l hf
            refine zg_iast (ws' := [(q0, .inr (7, [.ref q1, .ref q2, .int w2, .ref q3, .int w4, .int w5, .ref q4, .int w7, .ref q5, .ref q6, .ref q7, .int w11, .int w12, .int w13, .int w14, .ref q8, .int w16])), (q1, .inl (G.2.2.1, 946, .inl f20)), (q2, .inl (G.2.2.1, 5676, .inl w1)), (q3, .inl (G.2.2.1, 60, .inl w3)), (q4, .inl (G.2.2.1, 201, .inl w6)), (q5, .inl (G.2.2.1, 201, .inl w8)), (q6, .inl (G.2.2.1, 201, .inl w9)), (q7, .inl (G.2.2.1, 201, .inl w10)), (q8, .inl (G.2.2.1, 201, .inl w15))]) X 1 rfl hin (by subst ef20; rfl) dX8_forget_128 ?_
            obtain ⟨x21, ex21, hf⟩ := pl_l hf
            refine zg_iinc (v := x21) (L' := [(4, .int x21), (0, .ref q0), (2, .int y2), (3, .int y3)]) X dX8_forget_129 (j := 3) rfl (by rw [ex21]; rfl) (by decide) rfl ?_
            refine zg_pc 132 rfl ?_
            refine zg_goto (tgt := 88) X dX8_forget_132 (by decide) ?_
            refine zg_loc [1, 2, 3, 0] rfl ?_
            exact ih88 y2 y3 x21 f20 w1 w2 w3 w4 w5 w6 w7 w8 w9 w10 w11 w12 w13 w14 w15 w16 hf
      intro y2 y3 w0 w1 w2 w3 w4 w5 w6 w7 w8 w9 w10 w11 w12 w13 w14 w15 w16 hf
      rw [zf_X8_forget_L51] at hf
      refine zg_iload_n X dX8_forget_51 rfl 2 rfl ?_
      refine zg_aload_n X dX8_forget_52 rfl 0 rfl ?_
      refine zg_get (C := RX8) (T := TX8) (N := 17) X 0 0 hiX8 rfl rfl (by decide) hw0 rfl dX8_forget_53 ?_
      refine zg_sipush (v := 805) X dX8_forget_56 (by decide) ?_
      refine zg_iald X 1 rfl (by unfold vp_in; decide) dX8_forget_59 ?_
      obtain ⟨x11, ex11, hf⟩ := pl_l hf
      refine zg_topi ex11 ?_
      refine zg_icmp_ge (tgt := 141) X dX8_forget_60 (by decide) (fun c12 => ?_) (fun c12 => ?_)
      · have hf := pl_t c12 hf
        refine zg_iload_n X dX8_forget_141 rfl 1 rfl ?_
        have hf := Option.some.inj hf
        subst hf
        exact zg_iret X hF rfl rfl () rfl rfl (Nat.le_of_ble_eq_true rfl) (Nat.le_of_ble_eq_true rfl) dX8_forget_142
      · have hf := pl_f c12 hf
        refine zg_aload_n X dX8_forget_63 rfl 0 rfl ?_
        refine zg_get (C := RX8) (T := TX8) (N := 17) X 0 0 hiX8 rfl rfl (by decide) hw0 rfl dX8_forget_64 ?_
        refine zg_sipush (v := 806) X dX8_forget_67 (by decide) ?_
        refine zg_iload_n X dX8_forget_70 rfl 2 rfl ?_
        refine zg_iadd X dX8_forget_71 ?_
        refine zg_aload_n X dX8_forget_72 rfl 0 rfl ?_
        refine zg_get (C := RX8) (T := TX8) (N := 17) X 0 0 hiX8 rfl rfl (by decide) hw0 rfl dX8_forget_73 ?_
        refine zg_sipush (v := 806) X dX8_forget_76 (by decide) ?_
        refine zg_iload_n X dX8_forget_79 rfl 2 rfl ?_
        refine zg_iadd X dX8_forget_80 ?_
        refine zg_iconst (v := 1) X dX8_forget_81 (by decide) ?_
        refine zg_iadd X dX8_forget_82 ?_
        obtain ⟨x13, ex13, hf⟩ := pl_l hf
        refine zg_topi ex13 ?_
        obtain ⟨hin, hf⟩ := pl_in hf
        refine zg_iald X 1 rfl hin dX8_forget_83 ?_
        obtain ⟨x14, ex14, hf⟩ := pl_l hf
        refine zg_topi ex14 ?_
        obtain ⟨hin, hf⟩ := pl_in hf
        obtain ⟨f15, ef15, hf⟩ := pl_l hf
        refine zg_iast (ws' := [(q0, .inr (7, [.ref q1, .ref q2, .int w2, .ref q3, .int w4, .int w5, .ref q4, .int w7, .ref q5, .ref q6, .ref q7, .int w11, .int w12, .int w13, .int w14, .ref q8, .int w16])), (q1, .inl (G.2.2.1, 946, .inl f15)), (q2, .inl (G.2.2.1, 5676, .inl w1)), (q3, .inl (G.2.2.1, 60, .inl w3)), (q4, .inl (G.2.2.1, 201, .inl w6)), (q5, .inl (G.2.2.1, 201, .inl w8)), (q6, .inl (G.2.2.1, 201, .inl w9)), (q7, .inl (G.2.2.1, 201, .inl w10)), (q8, .inl (G.2.2.1, 201, .inl w15))]) X 1 rfl hin (by subst ef15; rfl) dX8_forget_84 ?_
        refine zg_iconst (v := 0) X dX8_forget_85 (by decide) ?_
        refine zg_istore (L' := [(4, .int 0), (0, .ref q0), (2, .int y2), (3, .int y3)]) X dX8_forget_86 (by decide) rfl ?_
        refine zg_loc [1, 2, 3, 0] rfl ?_
        exact hL88 fu y2 y3 0 f15 w1 w2 w3 w4 w5 w6 w7 w8 w9 w10 w11 w12 w13 w14 w15 w16 hf
  have hb14 : ∀ (y1 : Int32) (z1 : Int32) (w0 : (Nat → Int32)) (w1 : (Nat → Int32)) (w2 : Int32) (w3 : (Nat → Int32)) (w4 : Int32) (w5 : Int32) (w6 : (Nat → Int32)) (w7 : Int32) (w8 : (Nat → Int32)) (w9 : (Nat → Int32)) (w10 : (Nat → Int32)) (w11 : Int32) (w12 : Int32) (w13 : Int32) (w14 : Int32) (w15 : (Nat → Int32)) (w16 : Int32), zf_X8_forget_b14 fu v0 y1 z1 w0 w1 w2 w3 w4 w5 w6 w7 w8 w9 w10 w11 w12 w13 w14 w15 w16 = some res → zgGd G Z ({ frames := 2, cells := 0, slots := 0, locals := 43 } : Room) 0 0 5 [(q0, .inr (7, [.ref q1, .ref q2, .int w2, .ref q3, .int w4, .int w5, .ref q4, .int w7, .ref q5, .ref q6, .ref q7, .int w11, .int w12, .int w13, .int w14, .ref q8, .int w16])), (q1, .inl (G.2.2.1, 946, .inl w0)), (q2, .inl (G.2.2.1, 5676, .inl w1)), (q3, .inl (G.2.2.1, 60, .inl w3)), (q4, .inl (G.2.2.1, 201, .inl w6)), (q5, .inl (G.2.2.1, 201, .inl w8)), (q6, .inl (G.2.2.1, 201, .inl w9)), (q7, .inl (G.2.2.1, 201, .inl w10)), (q8, .inl (G.2.2.1, 201, .inl w15))] 14 [(0, .ref q0), (1, .int y1)] [.int z1, .ref q0] := by
    intro y1 z1 w0 w1 w2 w3 w4 w5 w6 w7 w8 w9 w10 w11 w12 w13 w14 w15 w16 hf
    unfold zf_X8_forget_b14 at hf
    obtain ⟨b3, hb3, hf⟩ := pl_b hf
    refine zg_cU1 (ws2 := [(q0, .inr (7, [.ref q1, .ref q2, .int b3.2.2.2.1, .ref q3, .int b3.2.2.2.2.2.1, .int b3.2.2.2.2.2.2.1, .ref q4, .int b3.2.2.2.2.2.2.2.2.1, .ref q5, .ref q6, .ref q7, .int b3.2.2.2.2.2.2.2.2.2.2.2.2.1, .int b3.2.2.2.2.2.2.2.2.2.2.2.2.2.1, .int b3.2.2.2.2.2.2.2.2.2.2.2.2.2.2.1, .int b3.2.2.2.2.2.2.2.2.2.2.2.2.2.2.2.1, .ref q8, .int b3.2.2.2.2.2.2.2.2.2.2.2.2.2.2.2.2.2])), (q1, .inl (G.2.2.1, 946, .inl b3.2.1)), (q2, .inl (G.2.2.1, 5676, .inl b3.2.2.1)), (q3, .inl (G.2.2.1, 60, .inl b3.2.2.2.2.1)), (q4, .inl (G.2.2.1, 201, .inl b3.2.2.2.2.2.2.2.1)), (q5, .inl (G.2.2.1, 201, .inl b3.2.2.2.2.2.2.2.2.2.1)), (q6, .inl (G.2.2.1, 201, .inl b3.2.2.2.2.2.2.2.2.2.2.1)), (q7, .inl (G.2.2.1, 201, .inl b3.2.2.2.2.2.2.2.2.2.2.2.1)), (q8, .inl (G.2.2.1, 201, .inl b3.2.2.2.2.2.2.2.2.2.2.2.2.2.2.2.2.1))]) X (zg_runV X (zc_X8_refused G q0 q1 q2 q3 q4 q5 q6 q7 q8 (w0, w1, w2, w3, w4, w5, w6, w7, w8, w9, w10, w11, w12, w13, w14, w15, w16) z1 fu b3 hb3) gX8_forget_X8_refused rfl zh_X8_refused ⟨rfl, rfl⟩ ⟨Nat.le_of_ble_eq_true rfl, Nat.le_of_ble_eq_true rfl⟩ rfl rfl rfl (Nat.le_of_ble_eq_true rfl) ⟨Nat.le_of_ble_eq_true rfl, Nat.le_of_ble_eq_true rfl⟩ [0, 1, 2, 3, 4, 5, 6, 7, 8] (by decide) rfl rfl dX8_forget_14) rfl rfl ?_
    refine zg_if_eq (tgt := 22) X dX8_forget_17 (by decide) (fun c4 => ?_) (fun c4 => ?_)
    · have hf := pl_t c4 hf
      refine zg_aload_n X dX8_forget_22 rfl 0 rfl ?_
      obtain ⟨b5, hb5, hf⟩ := pl_b hf
      refine zg_cU0 (ws2 := [(q0, .inr (7, [.ref q1, .ref q2, .int b5.2.2.1, .ref q3, .int b5.2.2.2.2.1, .int b5.2.2.2.2.2.1, .ref q4, .int b5.2.2.2.2.2.2.2.1, .ref q5, .ref q6, .ref q7, .int b5.2.2.2.2.2.2.2.2.2.2.2.1, .int b5.2.2.2.2.2.2.2.2.2.2.2.2.1, .int b5.2.2.2.2.2.2.2.2.2.2.2.2.2.1, .int b5.2.2.2.2.2.2.2.2.2.2.2.2.2.2.1, .ref q8, .int b5.2.2.2.2.2.2.2.2.2.2.2.2.2.2.2.2])), (q1, .inl (G.2.2.1, 946, .inl b5.1)), (q2, .inl (G.2.2.1, 5676, .inl b5.2.1)), (q3, .inl (G.2.2.1, 60, .inl b5.2.2.2.1)), (q4, .inl (G.2.2.1, 201, .inl b5.2.2.2.2.2.2.1)), (q5, .inl (G.2.2.1, 201, .inl b5.2.2.2.2.2.2.2.2.1)), (q6, .inl (G.2.2.1, 201, .inl b5.2.2.2.2.2.2.2.2.2.1)), (q7, .inl (G.2.2.1, 201, .inl b5.2.2.2.2.2.2.2.2.2.2.1)), (q8, .inl (G.2.2.1, 201, .inl b5.2.2.2.2.2.2.2.2.2.2.2.2.2.2.2.1))]) X (zg_runV X (zc_X8_saves G q0 q1 q2 q3 q4 q5 q6 q7 q8 b3.2 fu b5 hb5) gX8_forget_X8_saves rfl zh_X8_saves ⟨rfl, rfl⟩ ⟨Nat.le_of_ble_eq_true rfl, Nat.le_of_ble_eq_true rfl⟩ rfl rfl rfl (Nat.le_of_ble_eq_true rfl) ⟨Nat.le_of_ble_eq_true rfl, Nat.le_of_ble_eq_true rfl⟩ [0, 1, 2, 3, 4, 5, 6, 7, 8] (by decide) rfl rfl dX8_forget_23) rfl rfl ?_
      refine zg_aload_n X dX8_forget_26 rfl 0 rfl ?_
      refine zg_get (C := RX8) (T := TX8) (N := 17) X 0 0 hiX8 rfl rfl (by decide) hw0 rfl dX8_forget_27 ?_
      refine zg_sipush (v := 806) X dX8_forget_30 (by decide) ?_
      refine zg_iload_n X dX8_forget_33 rfl 1 rfl ?_
      refine zg_iadd X dX8_forget_34 ?_
      obtain ⟨x6, ex6, hf⟩ := pl_l hf
      refine zg_topi ex6 ?_
      obtain ⟨hin, hf⟩ := pl_in hf
      refine zg_iald X 1 rfl hin dX8_forget_35 ?_
      obtain ⟨x7, ex7, hf⟩ := pl_l hf
      refine zg_topi ex7 ?_
      refine zg_istore_n (L' := [(2, .int x7), (0, .ref q0), (1, .int y1)]) X dX8_forget_36 rfl (by decide) rfl ?_
      refine zg_aload_n X dX8_forget_37 rfl 1 rfl ?_
      refine zg_get (C := RX8) (T := TX8) (N := 17) X 0 0 hiX8 rfl rfl (by decide) hw0 rfl dX8_forget_38 ?_
      refine zg_sipush (v := 805) X dX8_forget_41 (by decide) ?_
      refine zg_dup2 X dX8_forget_44 rfl rfl ?_
      refine zg_iald X 1 rfl (by unfold vp_in; decide) dX8_forget_45 ?_
      obtain ⟨x8, ex8, hf⟩ := pl_l hf
      refine zg_topi ex8 ?_
      refine zg_iconst (v := 1) X dX8_forget_46 (by decide) ?_
      refine zg_isub X dX8_forget_47 ?_
      obtain ⟨x9, ex9, hf⟩ := pl_l hf
      refine zg_topi ex9 ?_
      obtain ⟨f10, ef10, hf⟩ := pl_l hf
      refine zg_iast (ws' := [(q0, .inr (7, [.ref q1, .ref q2, .int b5.2.2.1, .ref q3, .int b5.2.2.2.2.1, .int b5.2.2.2.2.2.1, .ref q4, .int b5.2.2.2.2.2.2.2.1, .ref q5, .ref q6, .ref q7, .int b5.2.2.2.2.2.2.2.2.2.2.2.1, .int b5.2.2.2.2.2.2.2.2.2.2.2.2.1, .int b5.2.2.2.2.2.2.2.2.2.2.2.2.2.1, .int b5.2.2.2.2.2.2.2.2.2.2.2.2.2.2.1, .ref q8, .int b5.2.2.2.2.2.2.2.2.2.2.2.2.2.2.2.2])), (q1, .inl (G.2.2.1, 946, .inl f10)), (q2, .inl (G.2.2.1, 5676, .inl b5.2.1)), (q3, .inl (G.2.2.1, 60, .inl b5.2.2.2.1)), (q4, .inl (G.2.2.1, 201, .inl b5.2.2.2.2.2.2.1)), (q5, .inl (G.2.2.1, 201, .inl b5.2.2.2.2.2.2.2.2.1)), (q6, .inl (G.2.2.1, 201, .inl b5.2.2.2.2.2.2.2.2.2.1)), (q7, .inl (G.2.2.1, 201, .inl b5.2.2.2.2.2.2.2.2.2.2.1)), (q8, .inl (G.2.2.1, 201, .inl b5.2.2.2.2.2.2.2.2.2.2.2.2.2.2.2.1))]) X 1 rfl (by unfold vp_in; decide) (by subst ef10; rfl) dX8_forget_48 ?_
      refine zg_iload_n X dX8_forget_49 rfl 2 rfl ?_
      refine zg_istore_n (L' := [(3, .int y1), (2, .int x7), (0, .ref q0), (1, .int y1)]) X dX8_forget_50 rfl (by decide) rfl ?_
      refine zg_loc [2, 1, 0] rfl ?_
      exact hL51 fu x7 y1 f10 b5.2.1 b5.2.2.1 b5.2.2.2.1 b5.2.2.2.2.1 b5.2.2.2.2.2.1 b5.2.2.2.2.2.2.1 b5.2.2.2.2.2.2.2.1 b5.2.2.2.2.2.2.2.2.1 b5.2.2.2.2.2.2.2.2.2.1 b5.2.2.2.2.2.2.2.2.2.2.1 b5.2.2.2.2.2.2.2.2.2.2.2.1 b5.2.2.2.2.2.2.2.2.2.2.2.2.1 b5.2.2.2.2.2.2.2.2.2.2.2.2.2.1 b5.2.2.2.2.2.2.2.2.2.2.2.2.2.2.1 b5.2.2.2.2.2.2.2.2.2.2.2.2.2.2.2.1 b5.2.2.2.2.2.2.2.2.2.2.2.2.2.2.2.2 hf
    · have hf := pl_f c4 hf
      refine zg_iconst (v := 0) X dX8_forget_20 (by decide) ?_
      have hf := Option.some.inj hf
      subst hf
      exact zg_iret X hF rfl rfl () rfl rfl (Nat.le_of_ble_eq_true rfl) (Nat.le_of_ble_eq_true rfl) dX8_forget_21
  unfold zf_X8_forget at hf
  refine zg_aload_n X dX8_forget_0 rfl 0 rfl ?_
  refine zg_aload_n X dX8_forget_1 rfl 0 rfl ?_
  refine zg_iload_n X dX8_forget_2 rfl 1 rfl ?_
  obtain ⟨b1, hb1, hf⟩ := pl_b hf
  refine zg_cP1 X (zg_runV X (zc_X8_isIn G q0 q1 q2 q3 q4 q5 q6 q7 q8 v0 a1 fu b1 hb1) gX8_forget_X8_isIn rfl zh_X8_isIn ⟨rfl, rfl⟩ ⟨Nat.le_of_ble_eq_true rfl, Nat.le_of_ble_eq_true rfl⟩ rfl rfl rfl (Nat.le_of_ble_eq_true rfl) ⟨Nat.le_of_ble_eq_true rfl, Nat.le_of_ble_eq_true rfl⟩ [0, 1, 2, 3, 4, 5, 6, 7, 8] (by decide) rfl rfl dX8_forget_3) rfl ?_
  refine zg_if_eq (tgt := 13) X dX8_forget_6 (by decide) (fun c2 => ?_) (fun c2 => ?_)
  · have hf := pl_t c2 hf
    refine zg_iconst (v := 1) X dX8_forget_13 (by decide) ?_
    exact hb14 a1 1 v0.1 v0.2.1 v0.2.2.1 v0.2.2.2.1 v0.2.2.2.2.1 v0.2.2.2.2.2.1 v0.2.2.2.2.2.2.1 v0.2.2.2.2.2.2.2.1 v0.2.2.2.2.2.2.2.2.1 v0.2.2.2.2.2.2.2.2.2.1 v0.2.2.2.2.2.2.2.2.2.2.1 v0.2.2.2.2.2.2.2.2.2.2.2.1 v0.2.2.2.2.2.2.2.2.2.2.2.2.1 v0.2.2.2.2.2.2.2.2.2.2.2.2.2.1 v0.2.2.2.2.2.2.2.2.2.2.2.2.2.2.1 v0.2.2.2.2.2.2.2.2.2.2.2.2.2.2.2.1 v0.2.2.2.2.2.2.2.2.2.2.2.2.2.2.2.2 hf
  · have hf := pl_f c2 hf
    refine zg_iconst (v := 0) X dX8_forget_9 (by decide) ?_
    refine zg_goto (tgt := 14) X dX8_forget_10 (by decide) ?_
    exact hb14 a1 0 v0.1 v0.2.1 v0.2.2.1 v0.2.2.2.1 v0.2.2.2.2.1 v0.2.2.2.2.2.1 v0.2.2.2.2.2.2.1 v0.2.2.2.2.2.2.2.1 v0.2.2.2.2.2.2.2.2.1 v0.2.2.2.2.2.2.2.2.2.1 v0.2.2.2.2.2.2.2.2.2.2.1 v0.2.2.2.2.2.2.2.2.2.2.2.1 v0.2.2.2.2.2.2.2.2.2.2.2.2.1 v0.2.2.2.2.2.2.2.2.2.2.2.2.2.1 v0.2.2.2.2.2.2.2.2.2.2.2.2.2.2.1 v0.2.2.2.2.2.2.2.2.2.2.2.2.2.2.2.1 v0.2.2.2.2.2.2.2.2.2.2.2.2.2.2.2.2 hf
theorem zh_X8_words : yX8_words.cls = RX8 ∧ yX8_words.cls ≠ "java/lang/invoke/MethodHandle" ∧ yX8_words.cls ≠ "java/lang/invoke/VarHandle" ∧ (parseMethodDescriptor yX8_words.desc).map (fun d => d.parameters.length) = some 0 := by decide +kernel
set_option maxHeartbeats 8000000 in
set_option maxRecDepth 100000 in
theorem zc_X8_words (G : zgG) (q0 q1 q2 q3 q4 q5 q6 q7 q8 : Nat) (v0 : zModel) (fu : Nat) (res : (Int32 × zModel)) (hf : zf_X8_words fu v0 = some res) : zgCt G yX8_words wsX8_words ({ frames := 0, cells := 0, slots := 0, locals := 0 } : Room) [.ref q0] [(q0, .inr (7, [.ref q1, .ref q2, .int v0.2.2.1, .ref q3, .int v0.2.2.2.2.1, .int v0.2.2.2.2.2.1, .ref q4, .int v0.2.2.2.2.2.2.2.1, .ref q5, .ref q6, .ref q7, .int v0.2.2.2.2.2.2.2.2.2.2.2.1, .int v0.2.2.2.2.2.2.2.2.2.2.2.2.1, .int v0.2.2.2.2.2.2.2.2.2.2.2.2.2.1, .int v0.2.2.2.2.2.2.2.2.2.2.2.2.2.2.1, .ref q8, .int v0.2.2.2.2.2.2.2.2.2.2.2.2.2.2.2.2])), (q1, .inl (G.2.2.1, 946, .inl v0.1)), (q2, .inl (G.2.2.1, 5676, .inl v0.2.1)), (q3, .inl (G.2.2.1, 60, .inl v0.2.2.2.1)), (q4, .inl (G.2.2.1, 201, .inl v0.2.2.2.2.2.2.1)), (q5, .inl (G.2.2.1, 201, .inl v0.2.2.2.2.2.2.2.2.1)), (q6, .inl (G.2.2.1, 201, .inl v0.2.2.2.2.2.2.2.2.2.1)), (q7, .inl (G.2.2.1, 201, .inl v0.2.2.2.2.2.2.2.2.2.2.1)), (q8, .inl (G.2.2.1, 201, .inl v0.2.2.2.2.2.2.2.2.2.2.2.2.2.2.2.1))] (fun _ : Unit => some (.int res.1)) (fun _ => [(q0, .inr (7, [.ref q1, .ref q2, .int res.2.2.2.1, .ref q3, .int res.2.2.2.2.2.1, .int res.2.2.2.2.2.2.1, .ref q4, .int res.2.2.2.2.2.2.2.2.1, .ref q5, .ref q6, .ref q7, .int res.2.2.2.2.2.2.2.2.2.2.2.2.1, .int res.2.2.2.2.2.2.2.2.2.2.2.2.2.1, .int res.2.2.2.2.2.2.2.2.2.2.2.2.2.2.1, .int res.2.2.2.2.2.2.2.2.2.2.2.2.2.2.2.1, .ref q8, .int res.2.2.2.2.2.2.2.2.2.2.2.2.2.2.2.2.2])), (q1, .inl (G.2.2.1, 946, .inl res.2.1)), (q2, .inl (G.2.2.1, 5676, .inl res.2.2.1)), (q3, .inl (G.2.2.1, 60, .inl res.2.2.2.2.1)), (q4, .inl (G.2.2.1, 201, .inl res.2.2.2.2.2.2.2.1)), (q5, .inl (G.2.2.1, 201, .inl res.2.2.2.2.2.2.2.2.2.1)), (q6, .inl (G.2.2.1, 201, .inl res.2.2.2.2.2.2.2.2.2.2.1)), (q7, .inl (G.2.2.1, 201, .inl res.2.2.2.2.2.2.2.2.2.2.2.1)), (q8, .inl (G.2.2.1, 201, .inl res.2.2.2.2.2.2.2.2.2.2.2.2.2.2.2.2.1))]) 0 0 := by
  have hw0 : Cond.fieldLink RX8 38 "TelexReceiverModel" "thrown" "I" ∈ wsX8_words := by decide +kernel
  have hw1 : Cond.fieldLink RX8 7 "TelexReceiverModel" "s" "[I" ∈ wsX8_words := by decide +kernel
  have hiX8 : ∀ w ∈ u_ws RX8 TX8 17, w ∈ wsX8_words := by decide +kernel
  refine zg_of (own := RX8) (cc := cX8_words) (nL := 1) (ret := (some .int)) (by decide +kernel) rfl rfl (Nat.le_of_ble_eq_true rfl) (fun Z X hF => ?_)
  show zgGd G Z _ 0 0 1 _ 0 [(0, .ref q0)] []
  unfold zf_X8_words at hf
  refine zg_aload_n X dX8_words_0 rfl 0 rfl ?_
  refine zg_iconst (v := 0) X dX8_words_1 (by decide) ?_
  refine zg_put (C := RX8) (T := TX8) (N := 17) (ty := .int) (ws' := [(q0, .inr (7, [.ref q1, .ref q2, .int v0.2.2.1, .ref q3, .int v0.2.2.2.2.1, .int 0, .ref q4, .int v0.2.2.2.2.2.2.2.1, .ref q5, .ref q6, .ref q7, .int v0.2.2.2.2.2.2.2.2.2.2.2.1, .int v0.2.2.2.2.2.2.2.2.2.2.2.2.1, .int v0.2.2.2.2.2.2.2.2.2.2.2.2.2.1, .int v0.2.2.2.2.2.2.2.2.2.2.2.2.2.2.1, .ref q8, .int v0.2.2.2.2.2.2.2.2.2.2.2.2.2.2.2.2])), (q1, .inl (G.2.2.1, 946, .inl v0.1)), (q2, .inl (G.2.2.1, 5676, .inl v0.2.1)), (q3, .inl (G.2.2.1, 60, .inl v0.2.2.2.1)), (q4, .inl (G.2.2.1, 201, .inl v0.2.2.2.2.2.2.1)), (q5, .inl (G.2.2.1, 201, .inl v0.2.2.2.2.2.2.2.2.1)), (q6, .inl (G.2.2.1, 201, .inl v0.2.2.2.2.2.2.2.2.2.1)), (q7, .inl (G.2.2.1, 201, .inl v0.2.2.2.2.2.2.2.2.2.2.1)), (q8, .inl (G.2.2.1, 201, .inl v0.2.2.2.2.2.2.2.2.2.2.2.2.2.2.2.1))]) X 0 5 hiX8 tyX8 tyX8_ok nmX8 rfl rfl (by decide) hw0 rfl (by decide +kernel) rfl rfl (Nat.le_of_ble_eq_true rfl) rfl dX8_words_2 ?_
  refine zg_aload_n X dX8_words_5 rfl 0 rfl ?_
  refine zg_get (C := RX8) (T := TX8) (N := 17) X 0 0 hiX8 rfl rfl (by decide) hw1 rfl dX8_words_6 ?_
  refine zg_sipush (v := 805) X dX8_words_9 (by decide) ?_
  refine zg_iald X 1 rfl (by unfold vp_in; decide) dX8_words_12 ?_
  obtain ⟨x1, ex1, hf⟩ := pl_l hf
  refine zg_topi ex1 ?_
  have hf := Option.some.inj hf
  subst hf
  exact zg_iret X hF rfl rfl () rfl rfl (Nat.le_of_ble_eq_true rfl) (Nat.le_of_ble_eq_true rfl) dX8_words_13
theorem zh_X8_wordLetter : yX8_wordLetter.cls = RX8 ∧ yX8_wordLetter.cls ≠ "java/lang/invoke/MethodHandle" ∧ yX8_wordLetter.cls ≠ "java/lang/invoke/VarHandle" ∧ (parseMethodDescriptor yX8_wordLetter.desc).map (fun d => d.parameters.length) = some 2 := by decide +kernel
set_option maxHeartbeats 8000000 in
set_option maxRecDepth 100000 in
theorem zc_X8_wordLetter (G : zgG) (q0 q1 q2 q3 q4 q5 q6 q7 q8 : Nat) (v0 : zModel) (a1 : Int32) (a2 : Int32) (fu : Nat) (res : (Int32 × zModel)) (hf : zf_X8_wordLetter fu v0 a1 a2 = some res) : zgCt G yX8_wordLetter wsX8_wordLetter ({ frames := 2, cells := 0, slots := 0, locals := 43 } : Room) [.ref q0, .int a1, .int a2] [(q0, .inr (7, [.ref q1, .ref q2, .int v0.2.2.1, .ref q3, .int v0.2.2.2.2.1, .int v0.2.2.2.2.2.1, .ref q4, .int v0.2.2.2.2.2.2.2.1, .ref q5, .ref q6, .ref q7, .int v0.2.2.2.2.2.2.2.2.2.2.2.1, .int v0.2.2.2.2.2.2.2.2.2.2.2.2.1, .int v0.2.2.2.2.2.2.2.2.2.2.2.2.2.1, .int v0.2.2.2.2.2.2.2.2.2.2.2.2.2.2.1, .ref q8, .int v0.2.2.2.2.2.2.2.2.2.2.2.2.2.2.2.2])), (q1, .inl (G.2.2.1, 946, .inl v0.1)), (q2, .inl (G.2.2.1, 5676, .inl v0.2.1)), (q3, .inl (G.2.2.1, 60, .inl v0.2.2.2.1)), (q4, .inl (G.2.2.1, 201, .inl v0.2.2.2.2.2.2.1)), (q5, .inl (G.2.2.1, 201, .inl v0.2.2.2.2.2.2.2.2.1)), (q6, .inl (G.2.2.1, 201, .inl v0.2.2.2.2.2.2.2.2.2.1)), (q7, .inl (G.2.2.1, 201, .inl v0.2.2.2.2.2.2.2.2.2.2.1)), (q8, .inl (G.2.2.1, 201, .inl v0.2.2.2.2.2.2.2.2.2.2.2.2.2.2.2.1))] (fun _ : Unit => some (.int res.1)) (fun _ => [(q0, .inr (7, [.ref q1, .ref q2, .int res.2.2.2.1, .ref q3, .int res.2.2.2.2.2.1, .int res.2.2.2.2.2.2.1, .ref q4, .int res.2.2.2.2.2.2.2.2.1, .ref q5, .ref q6, .ref q7, .int res.2.2.2.2.2.2.2.2.2.2.2.2.1, .int res.2.2.2.2.2.2.2.2.2.2.2.2.2.1, .int res.2.2.2.2.2.2.2.2.2.2.2.2.2.2.1, .int res.2.2.2.2.2.2.2.2.2.2.2.2.2.2.2.1, .ref q8, .int res.2.2.2.2.2.2.2.2.2.2.2.2.2.2.2.2.2])), (q1, .inl (G.2.2.1, 946, .inl res.2.1)), (q2, .inl (G.2.2.1, 5676, .inl res.2.2.1)), (q3, .inl (G.2.2.1, 60, .inl res.2.2.2.2.1)), (q4, .inl (G.2.2.1, 201, .inl res.2.2.2.2.2.2.2.1)), (q5, .inl (G.2.2.1, 201, .inl res.2.2.2.2.2.2.2.2.2.1)), (q6, .inl (G.2.2.1, 201, .inl res.2.2.2.2.2.2.2.2.2.2.1)), (q7, .inl (G.2.2.1, 201, .inl res.2.2.2.2.2.2.2.2.2.2.2.1)), (q8, .inl (G.2.2.1, 201, .inl res.2.2.2.2.2.2.2.2.2.2.2.2.2.2.2.2.1))]) 0 0 := by
  have hw0 : Cond.fieldLink RX8 7 "TelexReceiverModel" "s" "[I" ∈ wsX8_wordLetter := by decide +kernel
  have hiX8 : ∀ w ∈ u_ws RX8 TX8 17, w ∈ wsX8_wordLetter := by decide +kernel
  refine zg_of (own := RX8) (cc := cX8_wordLetter) (nL := 3) (ret := (some .int)) (by decide +kernel) rfl rfl (Nat.le_of_ble_eq_true rfl) (fun Z X hF => ?_)
  show zgGd G Z _ 0 0 3 _ 0 [(0, .ref q0), (1, .int a1), (2, .int a2)] []
  have hb23 : ∀ (y1 : Int32) (y2 : Int32) (z1 : Int32) (w0 : (Nat → Int32)) (w1 : (Nat → Int32)) (w2 : Int32) (w3 : (Nat → Int32)) (w4 : Int32) (w5 : Int32) (w6 : (Nat → Int32)) (w7 : Int32) (w8 : (Nat → Int32)) (w9 : (Nat → Int32)) (w10 : (Nat → Int32)) (w11 : Int32) (w12 : Int32) (w13 : Int32) (w14 : Int32) (w15 : (Nat → Int32)) (w16 : Int32), zf_X8_wordLetter_b23 fu v0 y1 y2 z1 w0 w1 w2 w3 w4 w5 w6 w7 w8 w9 w10 w11 w12 w13 w14 w15 w16 = some res → zgGd G Z ({ frames := 2, cells := 0, slots := 0, locals := 43 } : Room) 0 0 3 [(q0, .inr (7, [.ref q1, .ref q2, .int w2, .ref q3, .int w4, .int w5, .ref q4, .int w7, .ref q5, .ref q6, .ref q7, .int w11, .int w12, .int w13, .int w14, .ref q8, .int w16])), (q1, .inl (G.2.2.1, 946, .inl w0)), (q2, .inl (G.2.2.1, 5676, .inl w1)), (q3, .inl (G.2.2.1, 60, .inl w3)), (q4, .inl (G.2.2.1, 201, .inl w6)), (q5, .inl (G.2.2.1, 201, .inl w8)), (q6, .inl (G.2.2.1, 201, .inl w9)), (q7, .inl (G.2.2.1, 201, .inl w10)), (q8, .inl (G.2.2.1, 201, .inl w15))] 23 [(0, .ref q0), (1, .int y1), (2, .int y2)] [.int z1, .ref q0] := by
    intro y1 y2 z1 w0 w1 w2 w3 w4 w5 w6 w7 w8 w9 w10 w11 w12 w13 w14 w15 w16 hf
    unfold zf_X8_wordLetter_b23 at hf
    obtain ⟨b5, hb5, hf⟩ := pl_b hf
    refine zg_cU1 (ws2 := [(q0, .inr (7, [.ref q1, .ref q2, .int b5.2.2.2.1, .ref q3, .int b5.2.2.2.2.2.1, .int b5.2.2.2.2.2.2.1, .ref q4, .int b5.2.2.2.2.2.2.2.2.1, .ref q5, .ref q6, .ref q7, .int b5.2.2.2.2.2.2.2.2.2.2.2.2.1, .int b5.2.2.2.2.2.2.2.2.2.2.2.2.2.1, .int b5.2.2.2.2.2.2.2.2.2.2.2.2.2.2.1, .int b5.2.2.2.2.2.2.2.2.2.2.2.2.2.2.2.1, .ref q8, .int b5.2.2.2.2.2.2.2.2.2.2.2.2.2.2.2.2.2])), (q1, .inl (G.2.2.1, 946, .inl b5.2.1)), (q2, .inl (G.2.2.1, 5676, .inl b5.2.2.1)), (q3, .inl (G.2.2.1, 60, .inl b5.2.2.2.2.1)), (q4, .inl (G.2.2.1, 201, .inl b5.2.2.2.2.2.2.2.1)), (q5, .inl (G.2.2.1, 201, .inl b5.2.2.2.2.2.2.2.2.2.1)), (q6, .inl (G.2.2.1, 201, .inl b5.2.2.2.2.2.2.2.2.2.2.1)), (q7, .inl (G.2.2.1, 201, .inl b5.2.2.2.2.2.2.2.2.2.2.2.1)), (q8, .inl (G.2.2.1, 201, .inl b5.2.2.2.2.2.2.2.2.2.2.2.2.2.2.2.2.1))]) X (zg_runV X (zc_X8_refused G q0 q1 q2 q3 q4 q5 q6 q7 q8 (w0, w1, w2, w3, w4, w5, w6, w7, w8, w9, w10, w11, w12, w13, w14, w15, w16) z1 fu b5 hb5) gX8_wordLetter_X8_refused rfl zh_X8_refused ⟨rfl, rfl⟩ ⟨Nat.le_of_ble_eq_true rfl, Nat.le_of_ble_eq_true rfl⟩ rfl rfl rfl (Nat.le_of_ble_eq_true rfl) ⟨Nat.le_of_ble_eq_true rfl, Nat.le_of_ble_eq_true rfl⟩ [0, 1, 2, 3, 4, 5, 6, 7, 8] (by decide) rfl rfl dX8_wordLetter_23) rfl rfl ?_
    refine zg_if_eq (tgt := 31) X dX8_wordLetter_26 (by decide) (fun c6 => ?_) (fun c6 => ?_)
    · have hf := pl_t c6 hf
      refine zg_iload_n X dX8_wordLetter_31 rfl 2 rfl ?_
      refine zg_aload_n X dX8_wordLetter_32 rfl 0 rfl ?_
      refine zg_get (C := RX8) (T := TX8) (N := 17) X 0 0 hiX8 rfl rfl (by decide) hw0 rfl dX8_wordLetter_33 ?_
      refine zg_sipush (v := 806) X dX8_wordLetter_36 (by decide) ?_
      refine zg_iload_n X dX8_wordLetter_39 rfl 1 rfl ?_
      refine zg_iadd X dX8_wordLetter_40 ?_
      obtain ⟨x7, ex7, hf⟩ := pl_l hf
      refine zg_topi ex7 ?_
      obtain ⟨hin, hf⟩ := pl_in hf
      refine zg_iald X 1 rfl hin dX8_wordLetter_41 ?_
      obtain ⟨x8, ex8, hf⟩ := pl_l hf
      refine zg_topi ex8 ?_
      refine zg_icmp_ge (tgt := 68) X dX8_wordLetter_42 (by decide) (fun c9 => ?_) (fun c9 => ?_)
      · have hf := pl_t c9 hf
        refine zg_iconst (v := (-1)) X dX8_wordLetter_68 (by decide) ?_
        have hf := Option.some.inj hf
        subst hf
        exact zg_iret X hF rfl rfl () rfl rfl (Nat.le_of_ble_eq_true rfl) (Nat.le_of_ble_eq_true rfl) dX8_wordLetter_69
      · have hf := pl_f c9 hf
        refine zg_bipush (v := 97) X dX8_wordLetter_45 (by decide) ?_
        refine zg_aload_n X dX8_wordLetter_47 rfl 0 rfl ?_
        refine zg_get (C := RX8) (T := TX8) (N := 17) X 0 0 hiX8 rfl rfl (by decide) hw0 rfl dX8_wordLetter_48 ?_
        refine zg_sipush (v := 826) X dX8_wordLetter_51 (by decide) ?_
        refine zg_bipush (v := 6) X dX8_wordLetter_54 (by decide) ?_
        refine zg_iload_n X dX8_wordLetter_56 rfl 1 rfl ?_
        refine zg_imul X dX8_wordLetter_57 ?_
        refine zg_iadd X dX8_wordLetter_58 ?_
        refine zg_iload_n X dX8_wordLetter_59 rfl 2 rfl ?_
        refine zg_iadd X dX8_wordLetter_60 ?_
        obtain ⟨x10, ex10, hf⟩ := pl_l hf
        refine zg_topi ex10 ?_
        obtain ⟨hin, hf⟩ := pl_in hf
        refine zg_iald X 1 rfl hin dX8_wordLetter_61 ?_
        obtain ⟨x11, ex11, hf⟩ := pl_l hf
        refine zg_topi ex11 ?_
        refine zg_iadd X dX8_wordLetter_62 ?_
        refine zg_iconst (v := 1) X dX8_wordLetter_63 (by decide) ?_
        refine zg_isub X dX8_wordLetter_64 ?_
        refine zg_goto (tgt := 69) X dX8_wordLetter_65 (by decide) ?_
        obtain ⟨x12, ex12, hf⟩ := pl_l hf
        refine zg_topi ex12 ?_
        have hf := Option.some.inj hf
        subst hf
        exact zg_iret X hF rfl rfl () rfl rfl (Nat.le_of_ble_eq_true rfl) (Nat.le_of_ble_eq_true rfl) dX8_wordLetter_69
    · have hf := pl_f c6 hf
      refine zg_iconst (v := 0) X dX8_wordLetter_29 (by decide) ?_
      have hf := Option.some.inj hf
      subst hf
      exact zg_iret X hF rfl rfl () rfl rfl (Nat.le_of_ble_eq_true rfl) (Nat.le_of_ble_eq_true rfl) dX8_wordLetter_30
  have hb22 : ∀ (y1 : Int32) (y2 : Int32) (w0 : (Nat → Int32)) (w1 : (Nat → Int32)) (w2 : Int32) (w3 : (Nat → Int32)) (w4 : Int32) (w5 : Int32) (w6 : (Nat → Int32)) (w7 : Int32) (w8 : (Nat → Int32)) (w9 : (Nat → Int32)) (w10 : (Nat → Int32)) (w11 : Int32) (w12 : Int32) (w13 : Int32) (w14 : Int32) (w15 : (Nat → Int32)) (w16 : Int32), zf_X8_wordLetter_b22 fu v0 y1 y2 w0 w1 w2 w3 w4 w5 w6 w7 w8 w9 w10 w11 w12 w13 w14 w15 w16 = some res → zgGd G Z ({ frames := 2, cells := 0, slots := 0, locals := 43 } : Room) 0 0 3 [(q0, .inr (7, [.ref q1, .ref q2, .int w2, .ref q3, .int w4, .int w5, .ref q4, .int w7, .ref q5, .ref q6, .ref q7, .int w11, .int w12, .int w13, .int w14, .ref q8, .int w16])), (q1, .inl (G.2.2.1, 946, .inl w0)), (q2, .inl (G.2.2.1, 5676, .inl w1)), (q3, .inl (G.2.2.1, 60, .inl w3)), (q4, .inl (G.2.2.1, 201, .inl w6)), (q5, .inl (G.2.2.1, 201, .inl w8)), (q6, .inl (G.2.2.1, 201, .inl w9)), (q7, .inl (G.2.2.1, 201, .inl w10)), (q8, .inl (G.2.2.1, 201, .inl w15))] 22 [(0, .ref q0), (1, .int y1), (2, .int y2)] [.ref q0] := by
    intro y1 y2 w0 w1 w2 w3 w4 w5 w6 w7 w8 w9 w10 w11 w12 w13 w14 w15 w16 hf
    unfold zf_X8_wordLetter_b22 at hf
    refine zg_iconst (v := 1) X dX8_wordLetter_22 (by decide) ?_
    exact hb23 y1 y2 1 w0 w1 w2 w3 w4 w5 w6 w7 w8 w9 w10 w11 w12 w13 w14 w15 w16 hf
  unfold zf_X8_wordLetter at hf
  refine zg_aload_n X dX8_wordLetter_0 rfl 0 rfl ?_
  refine zg_aload_n X dX8_wordLetter_1 rfl 0 rfl ?_
  refine zg_iload_n X dX8_wordLetter_2 rfl 1 rfl ?_
  obtain ⟨b1, hb1, hf⟩ := pl_b hf
  refine zg_cP1 X (zg_runV X (zc_X8_isIn G q0 q1 q2 q3 q4 q5 q6 q7 q8 v0 a1 fu b1 hb1) gX8_wordLetter_X8_isIn rfl zh_X8_isIn ⟨rfl, rfl⟩ ⟨Nat.le_of_ble_eq_true rfl, Nat.le_of_ble_eq_true rfl⟩ rfl rfl rfl (Nat.le_of_ble_eq_true rfl) ⟨Nat.le_of_ble_eq_true rfl, Nat.le_of_ble_eq_true rfl⟩ [0, 1, 2, 3, 4, 5, 6, 7, 8] (by decide) rfl rfl dX8_wordLetter_3) rfl ?_
  refine zg_if_eq (tgt := 22) X dX8_wordLetter_6 (by decide) (fun c2 => ?_) (fun c2 => ?_)
  · have hf := pl_t c2 hf
    exact hb22 a1 a2 v0.1 v0.2.1 v0.2.2.1 v0.2.2.2.1 v0.2.2.2.2.1 v0.2.2.2.2.2.1 v0.2.2.2.2.2.2.1 v0.2.2.2.2.2.2.2.1 v0.2.2.2.2.2.2.2.2.1 v0.2.2.2.2.2.2.2.2.2.1 v0.2.2.2.2.2.2.2.2.2.2.1 v0.2.2.2.2.2.2.2.2.2.2.2.1 v0.2.2.2.2.2.2.2.2.2.2.2.2.1 v0.2.2.2.2.2.2.2.2.2.2.2.2.2.1 v0.2.2.2.2.2.2.2.2.2.2.2.2.2.2.1 v0.2.2.2.2.2.2.2.2.2.2.2.2.2.2.2.1 v0.2.2.2.2.2.2.2.2.2.2.2.2.2.2.2.2 hf
  · have hf := pl_f c2 hf
    refine zg_iload_n X dX8_wordLetter_9 rfl 2 rfl ?_
    refine zg_iconst (v := 0) X dX8_wordLetter_10 (by decide) ?_
    refine zg_iconst (v := 5) X dX8_wordLetter_11 (by decide) ?_
    obtain ⟨b3, hb3, hf⟩ := pl_b hf
    refine zg_cP1 X (zg_runS X (zc_X8_in G a2 0 5 fu b3 hb3) gX8_wordLetter_X8_in rfl zh_X8_in.2 ⟨rfl, rfl⟩ ⟨Nat.le_of_ble_eq_true rfl, Nat.le_of_ble_eq_true rfl⟩ rfl (Nat.le_of_ble_eq_true rfl) ⟨Nat.le_of_ble_eq_true rfl, Nat.le_of_ble_eq_true rfl⟩ [] (by decide) rfl rfl dX8_wordLetter_12) rfl ?_
    refine zg_if_eq (tgt := 22) X dX8_wordLetter_15 (by decide) (fun c4 => ?_) (fun c4 => ?_)
    · have hf := pl_t c4 hf
      exact hb22 a1 a2 v0.1 v0.2.1 v0.2.2.1 v0.2.2.2.1 v0.2.2.2.2.1 v0.2.2.2.2.2.1 v0.2.2.2.2.2.2.1 v0.2.2.2.2.2.2.2.1 v0.2.2.2.2.2.2.2.2.1 v0.2.2.2.2.2.2.2.2.2.1 v0.2.2.2.2.2.2.2.2.2.2.1 v0.2.2.2.2.2.2.2.2.2.2.2.1 v0.2.2.2.2.2.2.2.2.2.2.2.2.1 v0.2.2.2.2.2.2.2.2.2.2.2.2.2.1 v0.2.2.2.2.2.2.2.2.2.2.2.2.2.2.1 v0.2.2.2.2.2.2.2.2.2.2.2.2.2.2.2.1 v0.2.2.2.2.2.2.2.2.2.2.2.2.2.2.2.2 hf
    · have hf := pl_f c4 hf
      refine zg_iconst (v := 0) X dX8_wordLetter_18 (by decide) ?_
      refine zg_goto (tgt := 23) X dX8_wordLetter_19 (by decide) ?_
      exact hb23 a1 a2 0 v0.1 v0.2.1 v0.2.2.1 v0.2.2.2.1 v0.2.2.2.2.1 v0.2.2.2.2.2.1 v0.2.2.2.2.2.2.1 v0.2.2.2.2.2.2.2.1 v0.2.2.2.2.2.2.2.2.1 v0.2.2.2.2.2.2.2.2.2.1 v0.2.2.2.2.2.2.2.2.2.2.1 v0.2.2.2.2.2.2.2.2.2.2.2.1 v0.2.2.2.2.2.2.2.2.2.2.2.2.1 v0.2.2.2.2.2.2.2.2.2.2.2.2.2.1 v0.2.2.2.2.2.2.2.2.2.2.2.2.2.2.1 v0.2.2.2.2.2.2.2.2.2.2.2.2.2.2.2.1 v0.2.2.2.2.2.2.2.2.2.2.2.2.2.2.2.2 hf
theorem zh_X8_usesOf : yX8_usesOf.cls = RX8 ∧ yX8_usesOf.cls ≠ "java/lang/invoke/MethodHandle" ∧ yX8_usesOf.cls ≠ "java/lang/invoke/VarHandle" ∧ (parseMethodDescriptor yX8_usesOf.desc).map (fun d => d.parameters.length) = some 1 := by decide +kernel
set_option maxHeartbeats 8000000 in
set_option maxRecDepth 100000 in
theorem zc_X8_usesOf (G : zgG) (q0 q1 q2 q3 q4 q5 q6 q7 q8 : Nat) (v0 : zModel) (a1 : Int32) (fu : Nat) (res : Int32) (hf : zf_X8_usesOf fu v0 a1 = some res) : zgCt G yX8_usesOf wsX8_usesOf ({ frames := 1, cells := 0, slots := 0, locals := 25 } : Room) [.ref q0, .int a1] [(q0, .inr (7, [.ref q1, .ref q2, .int v0.2.2.1, .ref q3, .int v0.2.2.2.2.1, .int v0.2.2.2.2.2.1, .ref q4, .int v0.2.2.2.2.2.2.2.1, .ref q5, .ref q6, .ref q7, .int v0.2.2.2.2.2.2.2.2.2.2.2.1, .int v0.2.2.2.2.2.2.2.2.2.2.2.2.1, .int v0.2.2.2.2.2.2.2.2.2.2.2.2.2.1, .int v0.2.2.2.2.2.2.2.2.2.2.2.2.2.2.1, .ref q8, .int v0.2.2.2.2.2.2.2.2.2.2.2.2.2.2.2.2])), (q1, .inl (G.2.2.1, 946, .inl v0.1)), (q2, .inl (G.2.2.1, 5676, .inl v0.2.1)), (q3, .inl (G.2.2.1, 60, .inl v0.2.2.2.1)), (q4, .inl (G.2.2.1, 201, .inl v0.2.2.2.2.2.2.1)), (q5, .inl (G.2.2.1, 201, .inl v0.2.2.2.2.2.2.2.2.1)), (q6, .inl (G.2.2.1, 201, .inl v0.2.2.2.2.2.2.2.2.2.1)), (q7, .inl (G.2.2.1, 201, .inl v0.2.2.2.2.2.2.2.2.2.2.1)), (q8, .inl (G.2.2.1, 201, .inl v0.2.2.2.2.2.2.2.2.2.2.2.2.2.2.2.1))] (fun _ : Unit => some (.int res)) (fun _ => [(q0, .inr (7, [.ref q1, .ref q2, .int v0.2.2.1, .ref q3, .int v0.2.2.2.2.1, .int v0.2.2.2.2.2.1, .ref q4, .int v0.2.2.2.2.2.2.2.1, .ref q5, .ref q6, .ref q7, .int v0.2.2.2.2.2.2.2.2.2.2.2.1, .int v0.2.2.2.2.2.2.2.2.2.2.2.2.1, .int v0.2.2.2.2.2.2.2.2.2.2.2.2.2.1, .int v0.2.2.2.2.2.2.2.2.2.2.2.2.2.2.1, .ref q8, .int v0.2.2.2.2.2.2.2.2.2.2.2.2.2.2.2.2])), (q1, .inl (G.2.2.1, 946, .inl v0.1)), (q2, .inl (G.2.2.1, 5676, .inl v0.2.1)), (q3, .inl (G.2.2.1, 60, .inl v0.2.2.2.1)), (q4, .inl (G.2.2.1, 201, .inl v0.2.2.2.2.2.2.1)), (q5, .inl (G.2.2.1, 201, .inl v0.2.2.2.2.2.2.2.2.1)), (q6, .inl (G.2.2.1, 201, .inl v0.2.2.2.2.2.2.2.2.2.1)), (q7, .inl (G.2.2.1, 201, .inl v0.2.2.2.2.2.2.2.2.2.2.1)), (q8, .inl (G.2.2.1, 201, .inl v0.2.2.2.2.2.2.2.2.2.2.2.2.2.2.2.1))]) 0 0 := by
  have hw0 : Cond.fieldLink RX8 97 "TelexReceiverModel" "segments" "I" ∈ wsX8_usesOf := by decide +kernel
  have hw1 : Cond.fieldLink RX8 28 "TelexReceiverModel" "kind" "[I" ∈ wsX8_usesOf := by decide +kernel
  have hw2 : Cond.fieldLink RX8 22 "TelexReceiverModel" "begin" "[I" ∈ wsX8_usesOf := by decide +kernel
  have hw3 : Cond.fieldLink RX8 25 "TelexReceiverModel" "size" "[I" ∈ wsX8_usesOf := by decide +kernel
  have hiX8 : ∀ w ∈ u_ws RX8 TX8 17, w ∈ wsX8_usesOf := by decide +kernel
  refine zg_of (own := RX8) (cc := cX8_usesOf) (nL := 4) (ret := (some .int)) (by decide +kernel) rfl rfl (Nat.le_of_ble_eq_true rfl) (fun Z X hF => ?_)
  show zgGd G Z _ 0 0 4 _ 0 [(0, .ref q0), (1, .int a1)] []
  have hL4 : ∀ (n : Nat) (y1 : Int32) (y2 : Int32) (y3 : Int32), zf_X8_usesOf_L4 fu v0 n y1 y2 y3 = some res → zgGd G Z ({ frames := 1, cells := 0, slots := 0, locals := 25 } : Room) 0 0 4 [(q0, .inr (7, [.ref q1, .ref q2, .int v0.2.2.1, .ref q3, .int v0.2.2.2.2.1, .int v0.2.2.2.2.2.1, .ref q4, .int v0.2.2.2.2.2.2.2.1, .ref q5, .ref q6, .ref q7, .int v0.2.2.2.2.2.2.2.2.2.2.2.1, .int v0.2.2.2.2.2.2.2.2.2.2.2.2.1, .int v0.2.2.2.2.2.2.2.2.2.2.2.2.2.1, .int v0.2.2.2.2.2.2.2.2.2.2.2.2.2.2.1, .ref q8, .int v0.2.2.2.2.2.2.2.2.2.2.2.2.2.2.2.2])), (q1, .inl (G.2.2.1, 946, .inl v0.1)), (q2, .inl (G.2.2.1, 5676, .inl v0.2.1)), (q3, .inl (G.2.2.1, 60, .inl v0.2.2.2.1)), (q4, .inl (G.2.2.1, 201, .inl v0.2.2.2.2.2.2.1)), (q5, .inl (G.2.2.1, 201, .inl v0.2.2.2.2.2.2.2.2.1)), (q6, .inl (G.2.2.1, 201, .inl v0.2.2.2.2.2.2.2.2.2.1)), (q7, .inl (G.2.2.1, 201, .inl v0.2.2.2.2.2.2.2.2.2.2.1)), (q8, .inl (G.2.2.1, 201, .inl v0.2.2.2.2.2.2.2.2.2.2.2.2.2.2.2.1))] 4 [(0, .ref q0), (1, .int y1), (2, .int y2), (3, .int y3)] [] := by
    intro n
    induction n with
    | zero =>
      intro y1 y2 y3 hf
      rw [zf_X8_usesOf_L4] at hf
      cases hf
    | succ n4 ih4 =>
      have hb49 : ∀ (y1 : Int32) (y3 : Int32) (z0 : Int32) (z1 : Int32), zf_X8_usesOf_b49 fu v0 (zf_X8_usesOf_L4 fu v0 n4) y1 y3 z0 z1 = some res → zgGd G Z ({ frames := 1, cells := 0, slots := 0, locals := 25 } : Room) 0 0 4 [(q0, .inr (7, [.ref q1, .ref q2, .int v0.2.2.1, .ref q3, .int v0.2.2.2.2.1, .int v0.2.2.2.2.2.1, .ref q4, .int v0.2.2.2.2.2.2.2.1, .ref q5, .ref q6, .ref q7, .int v0.2.2.2.2.2.2.2.2.2.2.2.1, .int v0.2.2.2.2.2.2.2.2.2.2.2.2.1, .int v0.2.2.2.2.2.2.2.2.2.2.2.2.2.1, .int v0.2.2.2.2.2.2.2.2.2.2.2.2.2.2.1, .ref q8, .int v0.2.2.2.2.2.2.2.2.2.2.2.2.2.2.2.2])), (q1, .inl (G.2.2.1, 946, .inl v0.1)), (q2, .inl (G.2.2.1, 5676, .inl v0.2.1)), (q3, .inl (G.2.2.1, 60, .inl v0.2.2.2.1)), (q4, .inl (G.2.2.1, 201, .inl v0.2.2.2.2.2.2.1)), (q5, .inl (G.2.2.1, 201, .inl v0.2.2.2.2.2.2.2.2.1)), (q6, .inl (G.2.2.1, 201, .inl v0.2.2.2.2.2.2.2.2.2.1)), (q7, .inl (G.2.2.1, 201, .inl v0.2.2.2.2.2.2.2.2.2.2.1)), (q8, .inl (G.2.2.1, 201, .inl v0.2.2.2.2.2.2.2.2.2.2.2.2.2.2.2.1))] 49 [(0, .ref q0), (1, .int y1), (3, .int y3)] [.int z1, .int z0] := by
        intro y1 y3 z0 z1 hf
        unfold zf_X8_usesOf_b49 at hf
        refine zg_iadd X dX8_usesOf_49 ?_
        obtain ⟨x8, ex8, hf⟩ := pl_l hf
        refine zg_topi ex8 ?_
        refine zg_istore_n (L' := [(2, .int x8), (0, .ref q0), (1, .int y1), (3, .int y3)]) X dX8_usesOf_50 rfl (by decide) rfl ?_
        obtain ⟨x9, ex9, hf⟩ := pl_l hf
        refine zg_iinc (v := x9) (L' := [(3, .int x9), (2, .int x8), (0, .ref q0), (1, .int y1)]) X dX8_usesOf_51 (j := 3) rfl (by rw [ex9]; rfl) (by decide) rfl ?_
        refine zg_goto (tgt := 4) X dX8_usesOf_54 (by decide) ?_
        refine zg_loc [2, 3, 1, 0] rfl ?_
        exact ih4 y1 x8 x9 hf
      have hb48 : ∀ (y1 : Int32) (y3 : Int32) (z0 : Int32), zf_X8_usesOf_b48 fu v0 (zf_X8_usesOf_L4 fu v0 n4) y1 y3 z0 = some res → zgGd G Z ({ frames := 1, cells := 0, slots := 0, locals := 25 } : Room) 0 0 4 [(q0, .inr (7, [.ref q1, .ref q2, .int v0.2.2.1, .ref q3, .int v0.2.2.2.2.1, .int v0.2.2.2.2.2.1, .ref q4, .int v0.2.2.2.2.2.2.2.1, .ref q5, .ref q6, .ref q7, .int v0.2.2.2.2.2.2.2.2.2.2.2.1, .int v0.2.2.2.2.2.2.2.2.2.2.2.2.1, .int v0.2.2.2.2.2.2.2.2.2.2.2.2.2.1, .int v0.2.2.2.2.2.2.2.2.2.2.2.2.2.2.1, .ref q8, .int v0.2.2.2.2.2.2.2.2.2.2.2.2.2.2.2.2])), (q1, .inl (G.2.2.1, 946, .inl v0.1)), (q2, .inl (G.2.2.1, 5676, .inl v0.2.1)), (q3, .inl (G.2.2.1, 60, .inl v0.2.2.2.1)), (q4, .inl (G.2.2.1, 201, .inl v0.2.2.2.2.2.2.1)), (q5, .inl (G.2.2.1, 201, .inl v0.2.2.2.2.2.2.2.2.1)), (q6, .inl (G.2.2.1, 201, .inl v0.2.2.2.2.2.2.2.2.2.1)), (q7, .inl (G.2.2.1, 201, .inl v0.2.2.2.2.2.2.2.2.2.2.1)), (q8, .inl (G.2.2.1, 201, .inl v0.2.2.2.2.2.2.2.2.2.2.2.2.2.2.2.1))] 48 [(0, .ref q0), (1, .int y1), (3, .int y3)] [.int z0] := by
        intro y1 y3 z0 hf
        unfold zf_X8_usesOf_b48 at hf
        refine zg_iconst (v := 0) X dX8_usesOf_48 (by decide) ?_
        exact hb49 y1 y3 z0 0 hf
      intro y1 y2 y3 hf
      rw [zf_X8_usesOf_L4] at hf
      refine zg_iload_n X dX8_usesOf_4 rfl 3 rfl ?_
      refine zg_aload_n X dX8_usesOf_5 rfl 0 rfl ?_
      refine zg_get (C := RX8) (T := TX8) (N := 17) X 0 11 hiX8 rfl rfl (by decide) hw0 rfl dX8_usesOf_6 ?_
      refine zg_icmp_ge (tgt := 57) X dX8_usesOf_9 (by decide) (fun c1 => ?_) (fun c1 => ?_)
      · have hf := pl_t c1 hf
        refine zg_iload_n X dX8_usesOf_57 rfl 2 rfl ?_
        have hf := Option.some.inj hf
        subst hf
        exact zg_iret X hF rfl rfl () rfl rfl (Nat.le_of_ble_eq_true rfl) (Nat.le_of_ble_eq_true rfl) dX8_usesOf_58
      · have hf := pl_f c1 hf
        refine zg_iload_n X dX8_usesOf_12 rfl 2 rfl ?_
        refine zg_aload_n X dX8_usesOf_13 rfl 0 rfl ?_
        refine zg_get (C := RX8) (T := TX8) (N := 17) X 0 10 hiX8 rfl rfl (by decide) hw1 rfl dX8_usesOf_14 ?_
        refine zg_iload_n X dX8_usesOf_17 rfl 3 rfl ?_
        obtain ⟨hin, hf⟩ := pl_in hf
        refine zg_iald X 7 rfl hin dX8_usesOf_18 ?_
        obtain ⟨x2, ex2, hf⟩ := pl_l hf
        refine zg_topi ex2 ?_
        refine zg_iconst (v := 5) X dX8_usesOf_19 (by decide) ?_
        refine zg_iand X dX8_usesOf_20 ?_
        refine zg_if_ne (tgt := 48) X dX8_usesOf_21 (by decide) (fun c3 => ?_) (fun c3 => ?_)
        · have hf := pl_f c3 hf
          refine zg_loc [0, 1, 3] rfl ?_
          exact hb48 y1 y3 y2 hf
        · have hf := pl_t c3 hf
          refine zg_aload_n X dX8_usesOf_24 rfl 0 rfl ?_
          refine zg_iload_n X dX8_usesOf_25 rfl 1 rfl ?_
          refine zg_aload_n X dX8_usesOf_26 rfl 0 rfl ?_
          refine zg_get (C := RX8) (T := TX8) (N := 17) X 0 8 hiX8 rfl rfl (by decide) hw2 rfl dX8_usesOf_27 ?_
          refine zg_iload_n X dX8_usesOf_30 rfl 3 rfl ?_
          obtain ⟨hin, hf⟩ := pl_in hf
          refine zg_iald X 5 rfl hin dX8_usesOf_31 ?_
          obtain ⟨x4, ex4, hf⟩ := pl_l hf
          refine zg_topi ex4 ?_
          refine zg_aload_n X dX8_usesOf_32 rfl 0 rfl ?_
          refine zg_get (C := RX8) (T := TX8) (N := 17) X 0 9 hiX8 rfl rfl (by decide) hw3 rfl dX8_usesOf_33 ?_
          refine zg_iload_n X dX8_usesOf_36 rfl 3 rfl ?_
          obtain ⟨hin, hf⟩ := pl_in hf
          refine zg_iald X 6 rfl hin dX8_usesOf_37 ?_
          obtain ⟨x5, ex5, hf⟩ := pl_l hf
          refine zg_topi ex5 ?_
          obtain ⟨b6, hb6, hf⟩ := pl_b hf
          refine zg_cP1 X (zg_runV X (zc_X8_isWord G q0 q1 q2 q3 q4 q5 q6 q7 q8 v0 y1 x4 x5 fu b6 hb6) gX8_usesOf_X8_isWord rfl zh_X8_isWord ⟨rfl, rfl⟩ ⟨Nat.le_of_ble_eq_true rfl, Nat.le_of_ble_eq_true rfl⟩ rfl rfl rfl (Nat.le_of_ble_eq_true rfl) ⟨Nat.le_of_ble_eq_true rfl, Nat.le_of_ble_eq_true rfl⟩ [0, 1, 2, 3, 4, 5, 6, 7, 8] (by decide) rfl rfl dX8_usesOf_38) rfl ?_
          refine zg_if_eq (tgt := 48) X dX8_usesOf_41 (by decide) (fun c7 => ?_) (fun c7 => ?_)
          · have hf := pl_t c7 hf
            refine zg_loc [0, 1, 3] rfl ?_
            exact hb48 y1 y3 y2 hf
          · have hf := pl_f c7 hf
            refine zg_iconst (v := 1) X dX8_usesOf_44 (by decide) ?_
            refine zg_goto (tgt := 49) X dX8_usesOf_45 (by decide) ?_
            refine zg_loc [0, 1, 3] rfl ?_
            exact hb49 y1 y3 y2 1 hf
  unfold zf_X8_usesOf at hf
  refine zg_iconst (v := 0) X dX8_usesOf_0 (by decide) ?_
  refine zg_istore_n (L' := [(2, .int 0), (0, .ref q0), (1, .int a1)]) X dX8_usesOf_1 rfl (by decide) rfl ?_
  refine zg_iconst (v := 0) X dX8_usesOf_2 (by decide) ?_
  refine zg_istore_n (L' := [(3, .int 0), (2, .int 0), (0, .ref q0), (1, .int a1)]) X dX8_usesOf_3 rfl (by decide) rfl ?_
  refine zg_loc [2, 3, 1, 0] rfl ?_
  exact hL4 fu a1 0 0 hf
theorem zh_X8_uses : yX8_uses.cls = RX8 ∧ yX8_uses.cls ≠ "java/lang/invoke/MethodHandle" ∧ yX8_uses.cls ≠ "java/lang/invoke/VarHandle" ∧ (parseMethodDescriptor yX8_uses.desc).map (fun d => d.parameters.length) = some 1 := by decide +kernel
set_option maxHeartbeats 8000000 in
set_option maxRecDepth 100000 in
theorem zc_X8_uses (G : zgG) (q0 q1 q2 q3 q4 q5 q6 q7 q8 : Nat) (v0 : zModel) (a1 : Int32) (fu : Nat) (res : (Int32 × zModel)) (hf : zf_X8_uses fu v0 a1 = some res) : zgCt G yX8_uses wsX8_uses ({ frames := 4, cells := 0, slots := 0, locals := 98 } : Room) [.ref q0, .int a1] [(q0, .inr (7, [.ref q1, .ref q2, .int v0.2.2.1, .ref q3, .int v0.2.2.2.2.1, .int v0.2.2.2.2.2.1, .ref q4, .int v0.2.2.2.2.2.2.2.1, .ref q5, .ref q6, .ref q7, .int v0.2.2.2.2.2.2.2.2.2.2.2.1, .int v0.2.2.2.2.2.2.2.2.2.2.2.2.1, .int v0.2.2.2.2.2.2.2.2.2.2.2.2.2.1, .int v0.2.2.2.2.2.2.2.2.2.2.2.2.2.2.1, .ref q8, .int v0.2.2.2.2.2.2.2.2.2.2.2.2.2.2.2.2])), (q1, .inl (G.2.2.1, 946, .inl v0.1)), (q2, .inl (G.2.2.1, 5676, .inl v0.2.1)), (q3, .inl (G.2.2.1, 60, .inl v0.2.2.2.1)), (q4, .inl (G.2.2.1, 201, .inl v0.2.2.2.2.2.2.1)), (q5, .inl (G.2.2.1, 201, .inl v0.2.2.2.2.2.2.2.2.1)), (q6, .inl (G.2.2.1, 201, .inl v0.2.2.2.2.2.2.2.2.2.1)), (q7, .inl (G.2.2.1, 201, .inl v0.2.2.2.2.2.2.2.2.2.2.1)), (q8, .inl (G.2.2.1, 201, .inl v0.2.2.2.2.2.2.2.2.2.2.2.2.2.2.2.1))] (fun _ : Unit => some (.int res.1)) (fun _ => [(q0, .inr (7, [.ref q1, .ref q2, .int res.2.2.2.1, .ref q3, .int res.2.2.2.2.2.1, .int res.2.2.2.2.2.2.1, .ref q4, .int res.2.2.2.2.2.2.2.2.1, .ref q5, .ref q6, .ref q7, .int res.2.2.2.2.2.2.2.2.2.2.2.2.1, .int res.2.2.2.2.2.2.2.2.2.2.2.2.2.1, .int res.2.2.2.2.2.2.2.2.2.2.2.2.2.2.1, .int res.2.2.2.2.2.2.2.2.2.2.2.2.2.2.2.1, .ref q8, .int res.2.2.2.2.2.2.2.2.2.2.2.2.2.2.2.2.2])), (q1, .inl (G.2.2.1, 946, .inl res.2.1)), (q2, .inl (G.2.2.1, 5676, .inl res.2.2.1)), (q3, .inl (G.2.2.1, 60, .inl res.2.2.2.2.1)), (q4, .inl (G.2.2.1, 201, .inl res.2.2.2.2.2.2.2.1)), (q5, .inl (G.2.2.1, 201, .inl res.2.2.2.2.2.2.2.2.2.1)), (q6, .inl (G.2.2.1, 201, .inl res.2.2.2.2.2.2.2.2.2.2.1)), (q7, .inl (G.2.2.1, 201, .inl res.2.2.2.2.2.2.2.2.2.2.2.1)), (q8, .inl (G.2.2.1, 201, .inl res.2.2.2.2.2.2.2.2.2.2.2.2.2.2.2.2.1))]) 0 0 := by
  refine zg_of (own := RX8) (cc := cX8_uses) (nL := 2) (ret := (some .int)) (by decide +kernel) rfl rfl (Nat.le_of_ble_eq_true rfl) (fun Z X hF => ?_)
  show zgGd G Z _ 0 0 2 _ 0 [(0, .ref q0), (1, .int a1)] []
  have hb14 : ∀ (y1 : Int32) (z1 : Int32) (w0 : (Nat → Int32)) (w1 : (Nat → Int32)) (w2 : Int32) (w3 : (Nat → Int32)) (w4 : Int32) (w5 : Int32) (w6 : (Nat → Int32)) (w7 : Int32) (w8 : (Nat → Int32)) (w9 : (Nat → Int32)) (w10 : (Nat → Int32)) (w11 : Int32) (w12 : Int32) (w13 : Int32) (w14 : Int32) (w15 : (Nat → Int32)) (w16 : Int32), zf_X8_uses_b14 fu v0 y1 z1 w0 w1 w2 w3 w4 w5 w6 w7 w8 w9 w10 w11 w12 w13 w14 w15 w16 = some res → zgGd G Z ({ frames := 4, cells := 0, slots := 0, locals := 98 } : Room) 0 0 2 [(q0, .inr (7, [.ref q1, .ref q2, .int w2, .ref q3, .int w4, .int w5, .ref q4, .int w7, .ref q5, .ref q6, .ref q7, .int w11, .int w12, .int w13, .int w14, .ref q8, .int w16])), (q1, .inl (G.2.2.1, 946, .inl w0)), (q2, .inl (G.2.2.1, 5676, .inl w1)), (q3, .inl (G.2.2.1, 60, .inl w3)), (q4, .inl (G.2.2.1, 201, .inl w6)), (q5, .inl (G.2.2.1, 201, .inl w8)), (q6, .inl (G.2.2.1, 201, .inl w9)), (q7, .inl (G.2.2.1, 201, .inl w10)), (q8, .inl (G.2.2.1, 201, .inl w15))] 14 [(0, .ref q0), (1, .int y1)] [.int z1, .ref q0] := by
    intro y1 z1 w0 w1 w2 w3 w4 w5 w6 w7 w8 w9 w10 w11 w12 w13 w14 w15 w16 hf
    unfold zf_X8_uses_b14 at hf
    obtain ⟨b3, hb3, hf⟩ := pl_b hf
    refine zg_cU1 (ws2 := [(q0, .inr (7, [.ref q1, .ref q2, .int b3.2.2.2.1, .ref q3, .int b3.2.2.2.2.2.1, .int b3.2.2.2.2.2.2.1, .ref q4, .int b3.2.2.2.2.2.2.2.2.1, .ref q5, .ref q6, .ref q7, .int b3.2.2.2.2.2.2.2.2.2.2.2.2.1, .int b3.2.2.2.2.2.2.2.2.2.2.2.2.2.1, .int b3.2.2.2.2.2.2.2.2.2.2.2.2.2.2.1, .int b3.2.2.2.2.2.2.2.2.2.2.2.2.2.2.2.1, .ref q8, .int b3.2.2.2.2.2.2.2.2.2.2.2.2.2.2.2.2.2])), (q1, .inl (G.2.2.1, 946, .inl b3.2.1)), (q2, .inl (G.2.2.1, 5676, .inl b3.2.2.1)), (q3, .inl (G.2.2.1, 60, .inl b3.2.2.2.2.1)), (q4, .inl (G.2.2.1, 201, .inl b3.2.2.2.2.2.2.2.1)), (q5, .inl (G.2.2.1, 201, .inl b3.2.2.2.2.2.2.2.2.2.1)), (q6, .inl (G.2.2.1, 201, .inl b3.2.2.2.2.2.2.2.2.2.2.1)), (q7, .inl (G.2.2.1, 201, .inl b3.2.2.2.2.2.2.2.2.2.2.2.1)), (q8, .inl (G.2.2.1, 201, .inl b3.2.2.2.2.2.2.2.2.2.2.2.2.2.2.2.2.1))]) X (zg_runV X (zc_X8_refused G q0 q1 q2 q3 q4 q5 q6 q7 q8 (w0, w1, w2, w3, w4, w5, w6, w7, w8, w9, w10, w11, w12, w13, w14, w15, w16) z1 fu b3 hb3) gX8_uses_X8_refused rfl zh_X8_refused ⟨rfl, rfl⟩ ⟨Nat.le_of_ble_eq_true rfl, Nat.le_of_ble_eq_true rfl⟩ rfl rfl rfl (Nat.le_of_ble_eq_true rfl) ⟨Nat.le_of_ble_eq_true rfl, Nat.le_of_ble_eq_true rfl⟩ [0, 1, 2, 3, 4, 5, 6, 7, 8] (by decide) rfl rfl dX8_uses_14) rfl rfl ?_
    refine zg_if_eq (tgt := 22) X dX8_uses_17 (by decide) (fun c4 => ?_) (fun c4 => ?_)
    · have hf := pl_t c4 hf
      refine zg_aload_n X dX8_uses_22 rfl 0 rfl ?_
      refine zg_iconst (v := (-1)) X dX8_uses_23 (by decide) ?_
      refine zg_iconst (v := 0) X dX8_uses_24 (by decide) ?_
      obtain ⟨b5, hb5, hf⟩ := pl_b hf
      refine zg_cU0 (ws2 := [(q0, .inr (7, [.ref q1, .ref q2, .int b5.2.2.1, .ref q3, .int b5.2.2.2.2.1, .int b5.2.2.2.2.2.1, .ref q4, .int b5.2.2.2.2.2.2.2.1, .ref q5, .ref q6, .ref q7, .int b5.2.2.2.2.2.2.2.2.2.2.2.1, .int b5.2.2.2.2.2.2.2.2.2.2.2.2.1, .int b5.2.2.2.2.2.2.2.2.2.2.2.2.2.1, .int b5.2.2.2.2.2.2.2.2.2.2.2.2.2.2.1, .ref q8, .int b5.2.2.2.2.2.2.2.2.2.2.2.2.2.2.2.2])), (q1, .inl (G.2.2.1, 946, .inl b5.1)), (q2, .inl (G.2.2.1, 5676, .inl b5.2.1)), (q3, .inl (G.2.2.1, 60, .inl b5.2.2.2.1)), (q4, .inl (G.2.2.1, 201, .inl b5.2.2.2.2.2.2.1)), (q5, .inl (G.2.2.1, 201, .inl b5.2.2.2.2.2.2.2.2.1)), (q6, .inl (G.2.2.1, 201, .inl b5.2.2.2.2.2.2.2.2.2.1)), (q7, .inl (G.2.2.1, 201, .inl b5.2.2.2.2.2.2.2.2.2.2.1)), (q8, .inl (G.2.2.1, 201, .inl b5.2.2.2.2.2.2.2.2.2.2.2.2.2.2.2.1))]) X (zg_runV X (zc_X8_decodes G q0 q1 q2 q3 q4 q5 q6 q7 q8 b3.2 (-1) 0 fu b5 hb5) gX8_uses_X8_decodes rfl zh_X8_decodes ⟨rfl, rfl⟩ ⟨Nat.le_of_ble_eq_true rfl, Nat.le_of_ble_eq_true rfl⟩ rfl rfl rfl (Nat.le_of_ble_eq_true rfl) ⟨Nat.le_of_ble_eq_true rfl, Nat.le_of_ble_eq_true rfl⟩ [0, 1, 2, 3, 4, 5, 6, 7, 8] (by decide) rfl rfl dX8_uses_25) rfl rfl ?_
      refine zg_aload_n X dX8_uses_28 rfl 0 rfl ?_
      refine zg_iload_n X dX8_uses_29 rfl 1 rfl ?_
      obtain ⟨b6, hb6, hf⟩ := pl_b hf
      refine zg_cP1 X (zg_runV X (zc_X8_usesOf G q0 q1 q2 q3 q4 q5 q6 q7 q8 b5 y1 fu b6 hb6) gX8_uses_X8_usesOf rfl zh_X8_usesOf ⟨rfl, rfl⟩ ⟨Nat.le_of_ble_eq_true rfl, Nat.le_of_ble_eq_true rfl⟩ rfl rfl rfl (Nat.le_of_ble_eq_true rfl) ⟨Nat.le_of_ble_eq_true rfl, Nat.le_of_ble_eq_true rfl⟩ [0, 1, 2, 3, 4, 5, 6, 7, 8] (by decide) rfl rfl dX8_uses_30) rfl ?_
      have hf := Option.some.inj hf
      subst hf
      exact zg_iret X hF rfl rfl () rfl rfl (Nat.le_of_ble_eq_true rfl) (Nat.le_of_ble_eq_true rfl) dX8_uses_33
    · have hf := pl_f c4 hf
      refine zg_iconst (v := 0) X dX8_uses_20 (by decide) ?_
      have hf := Option.some.inj hf
      subst hf
      exact zg_iret X hF rfl rfl () rfl rfl (Nat.le_of_ble_eq_true rfl) (Nat.le_of_ble_eq_true rfl) dX8_uses_21
  unfold zf_X8_uses at hf
  refine zg_aload_n X dX8_uses_0 rfl 0 rfl ?_
  refine zg_aload_n X dX8_uses_1 rfl 0 rfl ?_
  refine zg_iload_n X dX8_uses_2 rfl 1 rfl ?_
  obtain ⟨b1, hb1, hf⟩ := pl_b hf
  refine zg_cP1 X (zg_runV X (zc_X8_isIn G q0 q1 q2 q3 q4 q5 q6 q7 q8 v0 a1 fu b1 hb1) gX8_uses_X8_isIn rfl zh_X8_isIn ⟨rfl, rfl⟩ ⟨Nat.le_of_ble_eq_true rfl, Nat.le_of_ble_eq_true rfl⟩ rfl rfl rfl (Nat.le_of_ble_eq_true rfl) ⟨Nat.le_of_ble_eq_true rfl, Nat.le_of_ble_eq_true rfl⟩ [0, 1, 2, 3, 4, 5, 6, 7, 8] (by decide) rfl rfl dX8_uses_3) rfl ?_
  refine zg_if_eq (tgt := 13) X dX8_uses_6 (by decide) (fun c2 => ?_) (fun c2 => ?_)
  · have hf := pl_t c2 hf
    refine zg_iconst (v := 1) X dX8_uses_13 (by decide) ?_
    exact hb14 a1 1 v0.1 v0.2.1 v0.2.2.1 v0.2.2.2.1 v0.2.2.2.2.1 v0.2.2.2.2.2.1 v0.2.2.2.2.2.2.1 v0.2.2.2.2.2.2.2.1 v0.2.2.2.2.2.2.2.2.1 v0.2.2.2.2.2.2.2.2.2.1 v0.2.2.2.2.2.2.2.2.2.2.1 v0.2.2.2.2.2.2.2.2.2.2.2.1 v0.2.2.2.2.2.2.2.2.2.2.2.2.1 v0.2.2.2.2.2.2.2.2.2.2.2.2.2.1 v0.2.2.2.2.2.2.2.2.2.2.2.2.2.2.1 v0.2.2.2.2.2.2.2.2.2.2.2.2.2.2.2.1 v0.2.2.2.2.2.2.2.2.2.2.2.2.2.2.2.2 hf
  · have hf := pl_f c2 hf
    refine zg_iconst (v := 0) X dX8_uses_9 (by decide) ?_
    refine zg_goto (tgt := 14) X dX8_uses_10 (by decide) ?_
    exact hb14 a1 0 v0.1 v0.2.1 v0.2.2.1 v0.2.2.2.1 v0.2.2.2.2.1 v0.2.2.2.2.2.1 v0.2.2.2.2.2.2.1 v0.2.2.2.2.2.2.2.1 v0.2.2.2.2.2.2.2.2.1 v0.2.2.2.2.2.2.2.2.2.1 v0.2.2.2.2.2.2.2.2.2.2.1 v0.2.2.2.2.2.2.2.2.2.2.2.1 v0.2.2.2.2.2.2.2.2.2.2.2.2.1 v0.2.2.2.2.2.2.2.2.2.2.2.2.2.1 v0.2.2.2.2.2.2.2.2.2.2.2.2.2.2.1 v0.2.2.2.2.2.2.2.2.2.2.2.2.2.2.2.1 v0.2.2.2.2.2.2.2.2.2.2.2.2.2.2.2.2 hf
theorem zh_X8_printedLength : yX8_printedLength.cls = RX8 ∧ yX8_printedLength.cls ≠ "java/lang/invoke/MethodHandle" ∧ yX8_printedLength.cls ≠ "java/lang/invoke/VarHandle" ∧ (parseMethodDescriptor yX8_printedLength.desc).map (fun d => d.parameters.length) = some 0 := by decide +kernel
set_option maxHeartbeats 8000000 in
set_option maxRecDepth 100000 in
theorem zc_X8_printedLength (G : zgG) (q0 q1 q2 q3 q4 q5 q6 q7 q8 : Nat) (v0 : zModel) (fu : Nat) (res : (Int32 × zModel)) (hf : zf_X8_printedLength fu v0 = some res) : zgCt G yX8_printedLength wsX8_printedLength ({ frames := 4, cells := 0, slots := 0, locals := 98 } : Room) [.ref q0] [(q0, .inr (7, [.ref q1, .ref q2, .int v0.2.2.1, .ref q3, .int v0.2.2.2.2.1, .int v0.2.2.2.2.2.1, .ref q4, .int v0.2.2.2.2.2.2.2.1, .ref q5, .ref q6, .ref q7, .int v0.2.2.2.2.2.2.2.2.2.2.2.1, .int v0.2.2.2.2.2.2.2.2.2.2.2.2.1, .int v0.2.2.2.2.2.2.2.2.2.2.2.2.2.1, .int v0.2.2.2.2.2.2.2.2.2.2.2.2.2.2.1, .ref q8, .int v0.2.2.2.2.2.2.2.2.2.2.2.2.2.2.2.2])), (q1, .inl (G.2.2.1, 946, .inl v0.1)), (q2, .inl (G.2.2.1, 5676, .inl v0.2.1)), (q3, .inl (G.2.2.1, 60, .inl v0.2.2.2.1)), (q4, .inl (G.2.2.1, 201, .inl v0.2.2.2.2.2.2.1)), (q5, .inl (G.2.2.1, 201, .inl v0.2.2.2.2.2.2.2.2.1)), (q6, .inl (G.2.2.1, 201, .inl v0.2.2.2.2.2.2.2.2.2.1)), (q7, .inl (G.2.2.1, 201, .inl v0.2.2.2.2.2.2.2.2.2.2.1)), (q8, .inl (G.2.2.1, 201, .inl v0.2.2.2.2.2.2.2.2.2.2.2.2.2.2.2.1))] (fun _ : Unit => some (.int res.1)) (fun _ => [(q0, .inr (7, [.ref q1, .ref q2, .int res.2.2.2.1, .ref q3, .int res.2.2.2.2.2.1, .int res.2.2.2.2.2.2.1, .ref q4, .int res.2.2.2.2.2.2.2.2.1, .ref q5, .ref q6, .ref q7, .int res.2.2.2.2.2.2.2.2.2.2.2.2.1, .int res.2.2.2.2.2.2.2.2.2.2.2.2.2.1, .int res.2.2.2.2.2.2.2.2.2.2.2.2.2.2.1, .int res.2.2.2.2.2.2.2.2.2.2.2.2.2.2.2.1, .ref q8, .int res.2.2.2.2.2.2.2.2.2.2.2.2.2.2.2.2.2])), (q1, .inl (G.2.2.1, 946, .inl res.2.1)), (q2, .inl (G.2.2.1, 5676, .inl res.2.2.1)), (q3, .inl (G.2.2.1, 60, .inl res.2.2.2.2.1)), (q4, .inl (G.2.2.1, 201, .inl res.2.2.2.2.2.2.2.1)), (q5, .inl (G.2.2.1, 201, .inl res.2.2.2.2.2.2.2.2.2.1)), (q6, .inl (G.2.2.1, 201, .inl res.2.2.2.2.2.2.2.2.2.2.1)), (q7, .inl (G.2.2.1, 201, .inl res.2.2.2.2.2.2.2.2.2.2.2.1)), (q8, .inl (G.2.2.1, 201, .inl res.2.2.2.2.2.2.2.2.2.2.2.2.2.2.2.2.1))]) 0 0 := by
  have hw0 : Cond.fieldLink RX8 38 "TelexReceiverModel" "thrown" "I" ∈ wsX8_printedLength := by decide +kernel
  have hw1 : Cond.fieldLink RX8 88 "TelexReceiverModel" "printed" "I" ∈ wsX8_printedLength := by decide +kernel
  have hiX8 : ∀ w ∈ u_ws RX8 TX8 17, w ∈ wsX8_printedLength := by decide +kernel
  refine zg_of (own := RX8) (cc := cX8_printedLength) (nL := 1) (ret := (some .int)) (by decide +kernel) rfl rfl (Nat.le_of_ble_eq_true rfl) (fun Z X hF => ?_)
  show zgGd G Z _ 0 0 1 _ 0 [(0, .ref q0)] []
  unfold zf_X8_printedLength at hf
  refine zg_aload_n X dX8_printedLength_0 rfl 0 rfl ?_
  refine zg_iconst (v := 0) X dX8_printedLength_1 (by decide) ?_
  refine zg_put (C := RX8) (T := TX8) (N := 17) (ty := .int) (ws' := [(q0, .inr (7, [.ref q1, .ref q2, .int v0.2.2.1, .ref q3, .int v0.2.2.2.2.1, .int 0, .ref q4, .int v0.2.2.2.2.2.2.2.1, .ref q5, .ref q6, .ref q7, .int v0.2.2.2.2.2.2.2.2.2.2.2.1, .int v0.2.2.2.2.2.2.2.2.2.2.2.2.1, .int v0.2.2.2.2.2.2.2.2.2.2.2.2.2.1, .int v0.2.2.2.2.2.2.2.2.2.2.2.2.2.2.1, .ref q8, .int v0.2.2.2.2.2.2.2.2.2.2.2.2.2.2.2.2])), (q1, .inl (G.2.2.1, 946, .inl v0.1)), (q2, .inl (G.2.2.1, 5676, .inl v0.2.1)), (q3, .inl (G.2.2.1, 60, .inl v0.2.2.2.1)), (q4, .inl (G.2.2.1, 201, .inl v0.2.2.2.2.2.2.1)), (q5, .inl (G.2.2.1, 201, .inl v0.2.2.2.2.2.2.2.2.1)), (q6, .inl (G.2.2.1, 201, .inl v0.2.2.2.2.2.2.2.2.2.1)), (q7, .inl (G.2.2.1, 201, .inl v0.2.2.2.2.2.2.2.2.2.2.1)), (q8, .inl (G.2.2.1, 201, .inl v0.2.2.2.2.2.2.2.2.2.2.2.2.2.2.2.1))]) X 0 5 hiX8 tyX8 tyX8_ok nmX8 rfl rfl (by decide) hw0 rfl (by decide +kernel) rfl rfl (Nat.le_of_ble_eq_true rfl) rfl dX8_printedLength_2 ?_
  refine zg_aload_n X dX8_printedLength_5 rfl 0 rfl ?_
  refine zg_iconst (v := (-1)) X dX8_printedLength_6 (by decide) ?_
  refine zg_iconst (v := 0) X dX8_printedLength_7 (by decide) ?_
  obtain ⟨b1, hb1, hf⟩ := pl_b hf
  refine zg_cU0 (ws2 := [(q0, .inr (7, [.ref q1, .ref q2, .int b1.2.2.1, .ref q3, .int b1.2.2.2.2.1, .int b1.2.2.2.2.2.1, .ref q4, .int b1.2.2.2.2.2.2.2.1, .ref q5, .ref q6, .ref q7, .int b1.2.2.2.2.2.2.2.2.2.2.2.1, .int b1.2.2.2.2.2.2.2.2.2.2.2.2.1, .int b1.2.2.2.2.2.2.2.2.2.2.2.2.2.1, .int b1.2.2.2.2.2.2.2.2.2.2.2.2.2.2.1, .ref q8, .int b1.2.2.2.2.2.2.2.2.2.2.2.2.2.2.2.2])), (q1, .inl (G.2.2.1, 946, .inl b1.1)), (q2, .inl (G.2.2.1, 5676, .inl b1.2.1)), (q3, .inl (G.2.2.1, 60, .inl b1.2.2.2.1)), (q4, .inl (G.2.2.1, 201, .inl b1.2.2.2.2.2.2.1)), (q5, .inl (G.2.2.1, 201, .inl b1.2.2.2.2.2.2.2.2.1)), (q6, .inl (G.2.2.1, 201, .inl b1.2.2.2.2.2.2.2.2.2.1)), (q7, .inl (G.2.2.1, 201, .inl b1.2.2.2.2.2.2.2.2.2.2.1)), (q8, .inl (G.2.2.1, 201, .inl b1.2.2.2.2.2.2.2.2.2.2.2.2.2.2.2.1))]) X (zg_runV X (zc_X8_decodes G q0 q1 q2 q3 q4 q5 q6 q7 q8 (v0.1, v0.2.1, v0.2.2.1, v0.2.2.2.1, v0.2.2.2.2.1, 0, v0.2.2.2.2.2.2.1, v0.2.2.2.2.2.2.2.1, v0.2.2.2.2.2.2.2.2.1, v0.2.2.2.2.2.2.2.2.2.1, v0.2.2.2.2.2.2.2.2.2.2.1, v0.2.2.2.2.2.2.2.2.2.2.2.1, v0.2.2.2.2.2.2.2.2.2.2.2.2.1, v0.2.2.2.2.2.2.2.2.2.2.2.2.2.1, v0.2.2.2.2.2.2.2.2.2.2.2.2.2.2.1, v0.2.2.2.2.2.2.2.2.2.2.2.2.2.2.2.1, v0.2.2.2.2.2.2.2.2.2.2.2.2.2.2.2.2) (-1) 0 fu b1 hb1) gX8_printedLength_X8_decodes rfl zh_X8_decodes ⟨rfl, rfl⟩ ⟨Nat.le_of_ble_eq_true rfl, Nat.le_of_ble_eq_true rfl⟩ rfl rfl rfl (Nat.le_of_ble_eq_true rfl) ⟨Nat.le_of_ble_eq_true rfl, Nat.le_of_ble_eq_true rfl⟩ [0, 1, 2, 3, 4, 5, 6, 7, 8] (by decide) rfl rfl dX8_printedLength_8) rfl rfl ?_
  refine zg_aload_n X dX8_printedLength_11 rfl 0 rfl ?_
  refine zg_get (C := RX8) (T := TX8) (N := 17) X 0 7 hiX8 rfl rfl (by decide) hw1 rfl dX8_printedLength_12 ?_
  have hf := Option.some.inj hf
  subst hf
  exact zg_iret X hF rfl rfl () rfl rfl (Nat.le_of_ble_eq_true rfl) (Nat.le_of_ble_eq_true rfl) dX8_printedLength_15
theorem zh_X8_printed : yX8_printed.cls = RX8 ∧ yX8_printed.cls ≠ "java/lang/invoke/MethodHandle" ∧ yX8_printed.cls ≠ "java/lang/invoke/VarHandle" ∧ (parseMethodDescriptor yX8_printed.desc).map (fun d => d.parameters.length) = some 1 := by decide +kernel
set_option maxHeartbeats 8000000 in
set_option maxRecDepth 100000 in
theorem zc_X8_printed (G : zgG) (q0 q1 q2 q3 q4 q5 q6 q7 q8 : Nat) (v0 : zModel) (a1 : Int32) (fu : Nat) (res : (Int32 × zModel)) (hf : zf_X8_printed fu v0 a1 = some res) : zgCt G yX8_printed wsX8_printed ({ frames := 4, cells := 0, slots := 0, locals := 98 } : Room) [.ref q0, .int a1] [(q0, .inr (7, [.ref q1, .ref q2, .int v0.2.2.1, .ref q3, .int v0.2.2.2.2.1, .int v0.2.2.2.2.2.1, .ref q4, .int v0.2.2.2.2.2.2.2.1, .ref q5, .ref q6, .ref q7, .int v0.2.2.2.2.2.2.2.2.2.2.2.1, .int v0.2.2.2.2.2.2.2.2.2.2.2.2.1, .int v0.2.2.2.2.2.2.2.2.2.2.2.2.2.1, .int v0.2.2.2.2.2.2.2.2.2.2.2.2.2.2.1, .ref q8, .int v0.2.2.2.2.2.2.2.2.2.2.2.2.2.2.2.2])), (q1, .inl (G.2.2.1, 946, .inl v0.1)), (q2, .inl (G.2.2.1, 5676, .inl v0.2.1)), (q3, .inl (G.2.2.1, 60, .inl v0.2.2.2.1)), (q4, .inl (G.2.2.1, 201, .inl v0.2.2.2.2.2.2.1)), (q5, .inl (G.2.2.1, 201, .inl v0.2.2.2.2.2.2.2.2.1)), (q6, .inl (G.2.2.1, 201, .inl v0.2.2.2.2.2.2.2.2.2.1)), (q7, .inl (G.2.2.1, 201, .inl v0.2.2.2.2.2.2.2.2.2.2.1)), (q8, .inl (G.2.2.1, 201, .inl v0.2.2.2.2.2.2.2.2.2.2.2.2.2.2.2.1))] (fun _ : Unit => some (.int res.1)) (fun _ => [(q0, .inr (7, [.ref q1, .ref q2, .int res.2.2.2.1, .ref q3, .int res.2.2.2.2.2.1, .int res.2.2.2.2.2.2.1, .ref q4, .int res.2.2.2.2.2.2.2.2.1, .ref q5, .ref q6, .ref q7, .int res.2.2.2.2.2.2.2.2.2.2.2.2.1, .int res.2.2.2.2.2.2.2.2.2.2.2.2.2.1, .int res.2.2.2.2.2.2.2.2.2.2.2.2.2.2.1, .int res.2.2.2.2.2.2.2.2.2.2.2.2.2.2.2.1, .ref q8, .int res.2.2.2.2.2.2.2.2.2.2.2.2.2.2.2.2.2])), (q1, .inl (G.2.2.1, 946, .inl res.2.1)), (q2, .inl (G.2.2.1, 5676, .inl res.2.2.1)), (q3, .inl (G.2.2.1, 60, .inl res.2.2.2.2.1)), (q4, .inl (G.2.2.1, 201, .inl res.2.2.2.2.2.2.2.1)), (q5, .inl (G.2.2.1, 201, .inl res.2.2.2.2.2.2.2.2.2.1)), (q6, .inl (G.2.2.1, 201, .inl res.2.2.2.2.2.2.2.2.2.2.1)), (q7, .inl (G.2.2.1, 201, .inl res.2.2.2.2.2.2.2.2.2.2.2.1)), (q8, .inl (G.2.2.1, 201, .inl res.2.2.2.2.2.2.2.2.2.2.2.2.2.2.2.2.1))]) 0 0 := by
  have hw0 : Cond.fieldLink RX8 88 "TelexReceiverModel" "printed" "I" ∈ wsX8_printed := by decide +kernel
  have hw1 : Cond.fieldLink RX8 19 "TelexReceiverModel" "paper" "[I" ∈ wsX8_printed := by decide +kernel
  have hiX8 : ∀ w ∈ u_ws RX8 TX8 17, w ∈ wsX8_printed := by decide +kernel
  refine zg_of (own := RX8) (cc := cX8_printed) (nL := 2) (ret := (some .int)) (by decide +kernel) rfl rfl (Nat.le_of_ble_eq_true rfl) (fun Z X hF => ?_)
  show zgGd G Z _ 0 0 2 _ 0 [(0, .ref q0), (1, .int a1)] []
  have hb26 : ∀ (y1 : Int32) (z1 : Int32) (w0 : (Nat → Int32)) (w1 : (Nat → Int32)) (w2 : Int32) (w3 : (Nat → Int32)) (w4 : Int32) (w5 : Int32) (w6 : (Nat → Int32)) (w7 : Int32) (w8 : (Nat → Int32)) (w9 : (Nat → Int32)) (w10 : (Nat → Int32)) (w11 : Int32) (w12 : Int32) (w13 : Int32) (w14 : Int32) (w15 : (Nat → Int32)) (w16 : Int32), zf_X8_printed_b26 fu v0 y1 z1 w0 w1 w2 w3 w4 w5 w6 w7 w8 w9 w10 w11 w12 w13 w14 w15 w16 = some res → zgGd G Z ({ frames := 4, cells := 0, slots := 0, locals := 98 } : Room) 0 0 2 [(q0, .inr (7, [.ref q1, .ref q2, .int w2, .ref q3, .int w4, .int w5, .ref q4, .int w7, .ref q5, .ref q6, .ref q7, .int w11, .int w12, .int w13, .int w14, .ref q8, .int w16])), (q1, .inl (G.2.2.1, 946, .inl w0)), (q2, .inl (G.2.2.1, 5676, .inl w1)), (q3, .inl (G.2.2.1, 60, .inl w3)), (q4, .inl (G.2.2.1, 201, .inl w6)), (q5, .inl (G.2.2.1, 201, .inl w8)), (q6, .inl (G.2.2.1, 201, .inl w9)), (q7, .inl (G.2.2.1, 201, .inl w10)), (q8, .inl (G.2.2.1, 201, .inl w15))] 26 [(0, .ref q0), (1, .int y1)] [.int z1, .ref q0] := by
    intro y1 z1 w0 w1 w2 w3 w4 w5 w6 w7 w8 w9 w10 w11 w12 w13 w14 w15 w16 hf
    unfold zf_X8_printed_b26 at hf
    obtain ⟨b4, hb4, hf⟩ := pl_b hf
    refine zg_cU1 (ws2 := [(q0, .inr (7, [.ref q1, .ref q2, .int b4.2.2.2.1, .ref q3, .int b4.2.2.2.2.2.1, .int b4.2.2.2.2.2.2.1, .ref q4, .int b4.2.2.2.2.2.2.2.2.1, .ref q5, .ref q6, .ref q7, .int b4.2.2.2.2.2.2.2.2.2.2.2.2.1, .int b4.2.2.2.2.2.2.2.2.2.2.2.2.2.1, .int b4.2.2.2.2.2.2.2.2.2.2.2.2.2.2.1, .int b4.2.2.2.2.2.2.2.2.2.2.2.2.2.2.2.1, .ref q8, .int b4.2.2.2.2.2.2.2.2.2.2.2.2.2.2.2.2.2])), (q1, .inl (G.2.2.1, 946, .inl b4.2.1)), (q2, .inl (G.2.2.1, 5676, .inl b4.2.2.1)), (q3, .inl (G.2.2.1, 60, .inl b4.2.2.2.2.1)), (q4, .inl (G.2.2.1, 201, .inl b4.2.2.2.2.2.2.2.1)), (q5, .inl (G.2.2.1, 201, .inl b4.2.2.2.2.2.2.2.2.2.1)), (q6, .inl (G.2.2.1, 201, .inl b4.2.2.2.2.2.2.2.2.2.2.1)), (q7, .inl (G.2.2.1, 201, .inl b4.2.2.2.2.2.2.2.2.2.2.2.1)), (q8, .inl (G.2.2.1, 201, .inl b4.2.2.2.2.2.2.2.2.2.2.2.2.2.2.2.2.1))]) X (zg_runV X (zc_X8_refused G q0 q1 q2 q3 q4 q5 q6 q7 q8 (w0, w1, w2, w3, w4, w5, w6, w7, w8, w9, w10, w11, w12, w13, w14, w15, w16) z1 fu b4 hb4) gX8_printed_X8_refused rfl zh_X8_refused ⟨rfl, rfl⟩ ⟨Nat.le_of_ble_eq_true rfl, Nat.le_of_ble_eq_true rfl⟩ rfl rfl rfl (Nat.le_of_ble_eq_true rfl) ⟨Nat.le_of_ble_eq_true rfl, Nat.le_of_ble_eq_true rfl⟩ [0, 1, 2, 3, 4, 5, 6, 7, 8] (by decide) rfl rfl dX8_printed_26) rfl rfl ?_
    refine zg_if_eq (tgt := 34) X dX8_printed_29 (by decide) (fun c5 => ?_) (fun c5 => ?_)
    · have hf := pl_t c5 hf
      refine zg_aload_n X dX8_printed_34 rfl 0 rfl ?_
      refine zg_get (C := RX8) (T := TX8) (N := 17) X 0 6 hiX8 rfl rfl (by decide) hw1 rfl dX8_printed_35 ?_
      refine zg_iload_n X dX8_printed_38 rfl 1 rfl ?_
      obtain ⟨hin, hf⟩ := pl_in hf
      refine zg_iald X 4 rfl hin dX8_printed_39 ?_
      obtain ⟨x6, ex6, hf⟩ := pl_l hf
      refine zg_topi ex6 ?_
      have hf := Option.some.inj hf
      subst hf
      exact zg_iret X hF rfl rfl () rfl rfl (Nat.le_of_ble_eq_true rfl) (Nat.le_of_ble_eq_true rfl) dX8_printed_40
    · have hf := pl_f c5 hf
      refine zg_iconst (v := 0) X dX8_printed_32 (by decide) ?_
      have hf := Option.some.inj hf
      subst hf
      exact zg_iret X hF rfl rfl () rfl rfl (Nat.le_of_ble_eq_true rfl) (Nat.le_of_ble_eq_true rfl) dX8_printed_33
  unfold zf_X8_printed at hf
  refine zg_aload_n X dX8_printed_0 rfl 0 rfl ?_
  refine zg_iconst (v := (-1)) X dX8_printed_1 (by decide) ?_
  refine zg_iconst (v := 0) X dX8_printed_2 (by decide) ?_
  obtain ⟨b1, hb1, hf⟩ := pl_b hf
  refine zg_cU0 (ws2 := [(q0, .inr (7, [.ref q1, .ref q2, .int b1.2.2.1, .ref q3, .int b1.2.2.2.2.1, .int b1.2.2.2.2.2.1, .ref q4, .int b1.2.2.2.2.2.2.2.1, .ref q5, .ref q6, .ref q7, .int b1.2.2.2.2.2.2.2.2.2.2.2.1, .int b1.2.2.2.2.2.2.2.2.2.2.2.2.1, .int b1.2.2.2.2.2.2.2.2.2.2.2.2.2.1, .int b1.2.2.2.2.2.2.2.2.2.2.2.2.2.2.1, .ref q8, .int b1.2.2.2.2.2.2.2.2.2.2.2.2.2.2.2.2])), (q1, .inl (G.2.2.1, 946, .inl b1.1)), (q2, .inl (G.2.2.1, 5676, .inl b1.2.1)), (q3, .inl (G.2.2.1, 60, .inl b1.2.2.2.1)), (q4, .inl (G.2.2.1, 201, .inl b1.2.2.2.2.2.2.1)), (q5, .inl (G.2.2.1, 201, .inl b1.2.2.2.2.2.2.2.2.1)), (q6, .inl (G.2.2.1, 201, .inl b1.2.2.2.2.2.2.2.2.2.1)), (q7, .inl (G.2.2.1, 201, .inl b1.2.2.2.2.2.2.2.2.2.2.1)), (q8, .inl (G.2.2.1, 201, .inl b1.2.2.2.2.2.2.2.2.2.2.2.2.2.2.2.1))]) X (zg_runV X (zc_X8_decodes G q0 q1 q2 q3 q4 q5 q6 q7 q8 v0 (-1) 0 fu b1 hb1) gX8_printed_X8_decodes rfl zh_X8_decodes ⟨rfl, rfl⟩ ⟨Nat.le_of_ble_eq_true rfl, Nat.le_of_ble_eq_true rfl⟩ rfl rfl rfl (Nat.le_of_ble_eq_true rfl) ⟨Nat.le_of_ble_eq_true rfl, Nat.le_of_ble_eq_true rfl⟩ [0, 1, 2, 3, 4, 5, 6, 7, 8] (by decide) rfl rfl dX8_printed_3) rfl rfl ?_
  refine zg_aload_n X dX8_printed_6 rfl 0 rfl ?_
  refine zg_iload_n X dX8_printed_7 rfl 1 rfl ?_
  refine zg_iconst (v := 0) X dX8_printed_8 (by decide) ?_
  refine zg_aload_n X dX8_printed_9 rfl 0 rfl ?_
  refine zg_get (C := RX8) (T := TX8) (N := 17) X 0 7 hiX8 rfl rfl (by decide) hw0 rfl dX8_printed_10 ?_
  refine zg_iconst (v := 1) X dX8_printed_13 (by decide) ?_
  refine zg_isub X dX8_printed_14 ?_
  obtain ⟨b2, hb2, hf⟩ := pl_b hf
  refine zg_cP1 X (zg_runS X (zc_X8_in G a1 0 (b1.2.2.2.2.2.2.2.1 - (1 : Int32)) fu b2 hb2) gX8_printed_X8_in rfl zh_X8_in.2 ⟨rfl, rfl⟩ ⟨Nat.le_of_ble_eq_true rfl, Nat.le_of_ble_eq_true rfl⟩ rfl (Nat.le_of_ble_eq_true rfl) ⟨Nat.le_of_ble_eq_true rfl, Nat.le_of_ble_eq_true rfl⟩ [] (by decide) rfl rfl dX8_printed_15) rfl ?_
  refine zg_if_eq (tgt := 25) X dX8_printed_18 (by decide) (fun c3 => ?_) (fun c3 => ?_)
  · have hf := pl_t c3 hf
    refine zg_iconst (v := 1) X dX8_printed_25 (by decide) ?_
    exact hb26 a1 1 b1.1 b1.2.1 b1.2.2.1 b1.2.2.2.1 b1.2.2.2.2.1 b1.2.2.2.2.2.1 b1.2.2.2.2.2.2.1 b1.2.2.2.2.2.2.2.1 b1.2.2.2.2.2.2.2.2.1 b1.2.2.2.2.2.2.2.2.2.1 b1.2.2.2.2.2.2.2.2.2.2.1 b1.2.2.2.2.2.2.2.2.2.2.2.1 b1.2.2.2.2.2.2.2.2.2.2.2.2.1 b1.2.2.2.2.2.2.2.2.2.2.2.2.2.1 b1.2.2.2.2.2.2.2.2.2.2.2.2.2.2.1 b1.2.2.2.2.2.2.2.2.2.2.2.2.2.2.2.1 b1.2.2.2.2.2.2.2.2.2.2.2.2.2.2.2.2 hf
  · have hf := pl_f c3 hf
    refine zg_iconst (v := 0) X dX8_printed_21 (by decide) ?_
    refine zg_goto (tgt := 26) X dX8_printed_22 (by decide) ?_
    exact hb26 a1 0 b1.1 b1.2.1 b1.2.2.1 b1.2.2.2.1 b1.2.2.2.2.1 b1.2.2.2.2.2.1 b1.2.2.2.2.2.2.1 b1.2.2.2.2.2.2.2.1 b1.2.2.2.2.2.2.2.2.1 b1.2.2.2.2.2.2.2.2.2.1 b1.2.2.2.2.2.2.2.2.2.2.1 b1.2.2.2.2.2.2.2.2.2.2.2.1 b1.2.2.2.2.2.2.2.2.2.2.2.2.1 b1.2.2.2.2.2.2.2.2.2.2.2.2.2.1 b1.2.2.2.2.2.2.2.2.2.2.2.2.2.2.1 b1.2.2.2.2.2.2.2.2.2.2.2.2.2.2.2.1 b1.2.2.2.2.2.2.2.2.2.2.2.2.2.2.2.2 hf
theorem zh_X8_segments : yX8_segments.cls = RX8 ∧ yX8_segments.cls ≠ "java/lang/invoke/MethodHandle" ∧ yX8_segments.cls ≠ "java/lang/invoke/VarHandle" ∧ (parseMethodDescriptor yX8_segments.desc).map (fun d => d.parameters.length) = some 0 := by decide +kernel
set_option maxHeartbeats 8000000 in
set_option maxRecDepth 100000 in
theorem zc_X8_segments (G : zgG) (q0 q1 q2 q3 q4 q5 q6 q7 q8 : Nat) (v0 : zModel) (fu : Nat) (res : (Int32 × zModel)) (hf : zf_X8_segments fu v0 = some res) : zgCt G yX8_segments wsX8_segments ({ frames := 4, cells := 0, slots := 0, locals := 98 } : Room) [.ref q0] [(q0, .inr (7, [.ref q1, .ref q2, .int v0.2.2.1, .ref q3, .int v0.2.2.2.2.1, .int v0.2.2.2.2.2.1, .ref q4, .int v0.2.2.2.2.2.2.2.1, .ref q5, .ref q6, .ref q7, .int v0.2.2.2.2.2.2.2.2.2.2.2.1, .int v0.2.2.2.2.2.2.2.2.2.2.2.2.1, .int v0.2.2.2.2.2.2.2.2.2.2.2.2.2.1, .int v0.2.2.2.2.2.2.2.2.2.2.2.2.2.2.1, .ref q8, .int v0.2.2.2.2.2.2.2.2.2.2.2.2.2.2.2.2])), (q1, .inl (G.2.2.1, 946, .inl v0.1)), (q2, .inl (G.2.2.1, 5676, .inl v0.2.1)), (q3, .inl (G.2.2.1, 60, .inl v0.2.2.2.1)), (q4, .inl (G.2.2.1, 201, .inl v0.2.2.2.2.2.2.1)), (q5, .inl (G.2.2.1, 201, .inl v0.2.2.2.2.2.2.2.2.1)), (q6, .inl (G.2.2.1, 201, .inl v0.2.2.2.2.2.2.2.2.2.1)), (q7, .inl (G.2.2.1, 201, .inl v0.2.2.2.2.2.2.2.2.2.2.1)), (q8, .inl (G.2.2.1, 201, .inl v0.2.2.2.2.2.2.2.2.2.2.2.2.2.2.2.1))] (fun _ : Unit => some (.int res.1)) (fun _ => [(q0, .inr (7, [.ref q1, .ref q2, .int res.2.2.2.1, .ref q3, .int res.2.2.2.2.2.1, .int res.2.2.2.2.2.2.1, .ref q4, .int res.2.2.2.2.2.2.2.2.1, .ref q5, .ref q6, .ref q7, .int res.2.2.2.2.2.2.2.2.2.2.2.2.1, .int res.2.2.2.2.2.2.2.2.2.2.2.2.2.1, .int res.2.2.2.2.2.2.2.2.2.2.2.2.2.2.1, .int res.2.2.2.2.2.2.2.2.2.2.2.2.2.2.2.1, .ref q8, .int res.2.2.2.2.2.2.2.2.2.2.2.2.2.2.2.2.2])), (q1, .inl (G.2.2.1, 946, .inl res.2.1)), (q2, .inl (G.2.2.1, 5676, .inl res.2.2.1)), (q3, .inl (G.2.2.1, 60, .inl res.2.2.2.2.1)), (q4, .inl (G.2.2.1, 201, .inl res.2.2.2.2.2.2.2.1)), (q5, .inl (G.2.2.1, 201, .inl res.2.2.2.2.2.2.2.2.2.1)), (q6, .inl (G.2.2.1, 201, .inl res.2.2.2.2.2.2.2.2.2.2.1)), (q7, .inl (G.2.2.1, 201, .inl res.2.2.2.2.2.2.2.2.2.2.2.1)), (q8, .inl (G.2.2.1, 201, .inl res.2.2.2.2.2.2.2.2.2.2.2.2.2.2.2.2.1))]) 0 0 := by
  have hw0 : Cond.fieldLink RX8 38 "TelexReceiverModel" "thrown" "I" ∈ wsX8_segments := by decide +kernel
  have hw1 : Cond.fieldLink RX8 97 "TelexReceiverModel" "segments" "I" ∈ wsX8_segments := by decide +kernel
  have hiX8 : ∀ w ∈ u_ws RX8 TX8 17, w ∈ wsX8_segments := by decide +kernel
  refine zg_of (own := RX8) (cc := cX8_segments) (nL := 1) (ret := (some .int)) (by decide +kernel) rfl rfl (Nat.le_of_ble_eq_true rfl) (fun Z X hF => ?_)
  show zgGd G Z _ 0 0 1 _ 0 [(0, .ref q0)] []
  unfold zf_X8_segments at hf
  refine zg_aload_n X dX8_segments_0 rfl 0 rfl ?_
  refine zg_iconst (v := 0) X dX8_segments_1 (by decide) ?_
  refine zg_put (C := RX8) (T := TX8) (N := 17) (ty := .int) (ws' := [(q0, .inr (7, [.ref q1, .ref q2, .int v0.2.2.1, .ref q3, .int v0.2.2.2.2.1, .int 0, .ref q4, .int v0.2.2.2.2.2.2.2.1, .ref q5, .ref q6, .ref q7, .int v0.2.2.2.2.2.2.2.2.2.2.2.1, .int v0.2.2.2.2.2.2.2.2.2.2.2.2.1, .int v0.2.2.2.2.2.2.2.2.2.2.2.2.2.1, .int v0.2.2.2.2.2.2.2.2.2.2.2.2.2.2.1, .ref q8, .int v0.2.2.2.2.2.2.2.2.2.2.2.2.2.2.2.2])), (q1, .inl (G.2.2.1, 946, .inl v0.1)), (q2, .inl (G.2.2.1, 5676, .inl v0.2.1)), (q3, .inl (G.2.2.1, 60, .inl v0.2.2.2.1)), (q4, .inl (G.2.2.1, 201, .inl v0.2.2.2.2.2.2.1)), (q5, .inl (G.2.2.1, 201, .inl v0.2.2.2.2.2.2.2.2.1)), (q6, .inl (G.2.2.1, 201, .inl v0.2.2.2.2.2.2.2.2.2.1)), (q7, .inl (G.2.2.1, 201, .inl v0.2.2.2.2.2.2.2.2.2.2.1)), (q8, .inl (G.2.2.1, 201, .inl v0.2.2.2.2.2.2.2.2.2.2.2.2.2.2.2.1))]) X 0 5 hiX8 tyX8 tyX8_ok nmX8 rfl rfl (by decide) hw0 rfl (by decide +kernel) rfl rfl (Nat.le_of_ble_eq_true rfl) rfl dX8_segments_2 ?_
  refine zg_aload_n X dX8_segments_5 rfl 0 rfl ?_
  refine zg_iconst (v := (-1)) X dX8_segments_6 (by decide) ?_
  refine zg_iconst (v := 0) X dX8_segments_7 (by decide) ?_
  obtain ⟨b1, hb1, hf⟩ := pl_b hf
  refine zg_cU0 (ws2 := [(q0, .inr (7, [.ref q1, .ref q2, .int b1.2.2.1, .ref q3, .int b1.2.2.2.2.1, .int b1.2.2.2.2.2.1, .ref q4, .int b1.2.2.2.2.2.2.2.1, .ref q5, .ref q6, .ref q7, .int b1.2.2.2.2.2.2.2.2.2.2.2.1, .int b1.2.2.2.2.2.2.2.2.2.2.2.2.1, .int b1.2.2.2.2.2.2.2.2.2.2.2.2.2.1, .int b1.2.2.2.2.2.2.2.2.2.2.2.2.2.2.1, .ref q8, .int b1.2.2.2.2.2.2.2.2.2.2.2.2.2.2.2.2])), (q1, .inl (G.2.2.1, 946, .inl b1.1)), (q2, .inl (G.2.2.1, 5676, .inl b1.2.1)), (q3, .inl (G.2.2.1, 60, .inl b1.2.2.2.1)), (q4, .inl (G.2.2.1, 201, .inl b1.2.2.2.2.2.2.1)), (q5, .inl (G.2.2.1, 201, .inl b1.2.2.2.2.2.2.2.2.1)), (q6, .inl (G.2.2.1, 201, .inl b1.2.2.2.2.2.2.2.2.2.1)), (q7, .inl (G.2.2.1, 201, .inl b1.2.2.2.2.2.2.2.2.2.2.1)), (q8, .inl (G.2.2.1, 201, .inl b1.2.2.2.2.2.2.2.2.2.2.2.2.2.2.2.1))]) X (zg_runV X (zc_X8_decodes G q0 q1 q2 q3 q4 q5 q6 q7 q8 (v0.1, v0.2.1, v0.2.2.1, v0.2.2.2.1, v0.2.2.2.2.1, 0, v0.2.2.2.2.2.2.1, v0.2.2.2.2.2.2.2.1, v0.2.2.2.2.2.2.2.2.1, v0.2.2.2.2.2.2.2.2.2.1, v0.2.2.2.2.2.2.2.2.2.2.1, v0.2.2.2.2.2.2.2.2.2.2.2.1, v0.2.2.2.2.2.2.2.2.2.2.2.2.1, v0.2.2.2.2.2.2.2.2.2.2.2.2.2.1, v0.2.2.2.2.2.2.2.2.2.2.2.2.2.2.1, v0.2.2.2.2.2.2.2.2.2.2.2.2.2.2.2.1, v0.2.2.2.2.2.2.2.2.2.2.2.2.2.2.2.2) (-1) 0 fu b1 hb1) gX8_segments_X8_decodes rfl zh_X8_decodes ⟨rfl, rfl⟩ ⟨Nat.le_of_ble_eq_true rfl, Nat.le_of_ble_eq_true rfl⟩ rfl rfl rfl (Nat.le_of_ble_eq_true rfl) ⟨Nat.le_of_ble_eq_true rfl, Nat.le_of_ble_eq_true rfl⟩ [0, 1, 2, 3, 4, 5, 6, 7, 8] (by decide) rfl rfl dX8_segments_8) rfl rfl ?_
  refine zg_aload_n X dX8_segments_11 rfl 0 rfl ?_
  refine zg_get (C := RX8) (T := TX8) (N := 17) X 0 11 hiX8 rfl rfl (by decide) hw1 rfl dX8_segments_12 ?_
  have hf := Option.some.inj hf
  subst hf
  exact zg_iret X hF rfl rfl () rfl rfl (Nat.le_of_ble_eq_true rfl) (Nat.le_of_ble_eq_true rfl) dX8_segments_15
theorem zh_X8_segmentLength : yX8_segmentLength.cls = RX8 ∧ yX8_segmentLength.cls ≠ "java/lang/invoke/MethodHandle" ∧ yX8_segmentLength.cls ≠ "java/lang/invoke/VarHandle" ∧ (parseMethodDescriptor yX8_segmentLength.desc).map (fun d => d.parameters.length) = some 1 := by decide +kernel
set_option maxHeartbeats 8000000 in
set_option maxRecDepth 100000 in
theorem zc_X8_segmentLength (G : zgG) (q0 q1 q2 q3 q4 q5 q6 q7 q8 : Nat) (v0 : zModel) (a1 : Int32) (fu : Nat) (res : (Int32 × zModel)) (hf : zf_X8_segmentLength fu v0 a1 = some res) : zgCt G yX8_segmentLength wsX8_segmentLength ({ frames := 4, cells := 0, slots := 0, locals := 98 } : Room) [.ref q0, .int a1] [(q0, .inr (7, [.ref q1, .ref q2, .int v0.2.2.1, .ref q3, .int v0.2.2.2.2.1, .int v0.2.2.2.2.2.1, .ref q4, .int v0.2.2.2.2.2.2.2.1, .ref q5, .ref q6, .ref q7, .int v0.2.2.2.2.2.2.2.2.2.2.2.1, .int v0.2.2.2.2.2.2.2.2.2.2.2.2.1, .int v0.2.2.2.2.2.2.2.2.2.2.2.2.2.1, .int v0.2.2.2.2.2.2.2.2.2.2.2.2.2.2.1, .ref q8, .int v0.2.2.2.2.2.2.2.2.2.2.2.2.2.2.2.2])), (q1, .inl (G.2.2.1, 946, .inl v0.1)), (q2, .inl (G.2.2.1, 5676, .inl v0.2.1)), (q3, .inl (G.2.2.1, 60, .inl v0.2.2.2.1)), (q4, .inl (G.2.2.1, 201, .inl v0.2.2.2.2.2.2.1)), (q5, .inl (G.2.2.1, 201, .inl v0.2.2.2.2.2.2.2.2.1)), (q6, .inl (G.2.2.1, 201, .inl v0.2.2.2.2.2.2.2.2.2.1)), (q7, .inl (G.2.2.1, 201, .inl v0.2.2.2.2.2.2.2.2.2.2.1)), (q8, .inl (G.2.2.1, 201, .inl v0.2.2.2.2.2.2.2.2.2.2.2.2.2.2.2.1))] (fun _ : Unit => some (.int res.1)) (fun _ => [(q0, .inr (7, [.ref q1, .ref q2, .int res.2.2.2.1, .ref q3, .int res.2.2.2.2.2.1, .int res.2.2.2.2.2.2.1, .ref q4, .int res.2.2.2.2.2.2.2.2.1, .ref q5, .ref q6, .ref q7, .int res.2.2.2.2.2.2.2.2.2.2.2.2.1, .int res.2.2.2.2.2.2.2.2.2.2.2.2.2.1, .int res.2.2.2.2.2.2.2.2.2.2.2.2.2.2.1, .int res.2.2.2.2.2.2.2.2.2.2.2.2.2.2.2.1, .ref q8, .int res.2.2.2.2.2.2.2.2.2.2.2.2.2.2.2.2.2])), (q1, .inl (G.2.2.1, 946, .inl res.2.1)), (q2, .inl (G.2.2.1, 5676, .inl res.2.2.1)), (q3, .inl (G.2.2.1, 60, .inl res.2.2.2.2.1)), (q4, .inl (G.2.2.1, 201, .inl res.2.2.2.2.2.2.2.1)), (q5, .inl (G.2.2.1, 201, .inl res.2.2.2.2.2.2.2.2.2.1)), (q6, .inl (G.2.2.1, 201, .inl res.2.2.2.2.2.2.2.2.2.2.1)), (q7, .inl (G.2.2.1, 201, .inl res.2.2.2.2.2.2.2.2.2.2.2.1)), (q8, .inl (G.2.2.1, 201, .inl res.2.2.2.2.2.2.2.2.2.2.2.2.2.2.2.2.1))]) 0 0 := by
  have hw0 : Cond.fieldLink RX8 97 "TelexReceiverModel" "segments" "I" ∈ wsX8_segmentLength := by decide +kernel
  have hw1 : Cond.fieldLink RX8 25 "TelexReceiverModel" "size" "[I" ∈ wsX8_segmentLength := by decide +kernel
  have hiX8 : ∀ w ∈ u_ws RX8 TX8 17, w ∈ wsX8_segmentLength := by decide +kernel
  refine zg_of (own := RX8) (cc := cX8_segmentLength) (nL := 2) (ret := (some .int)) (by decide +kernel) rfl rfl (Nat.le_of_ble_eq_true rfl) (fun Z X hF => ?_)
  show zgGd G Z _ 0 0 2 _ 0 [(0, .ref q0), (1, .int a1)] []
  have hb26 : ∀ (y1 : Int32) (z1 : Int32) (w0 : (Nat → Int32)) (w1 : (Nat → Int32)) (w2 : Int32) (w3 : (Nat → Int32)) (w4 : Int32) (w5 : Int32) (w6 : (Nat → Int32)) (w7 : Int32) (w8 : (Nat → Int32)) (w9 : (Nat → Int32)) (w10 : (Nat → Int32)) (w11 : Int32) (w12 : Int32) (w13 : Int32) (w14 : Int32) (w15 : (Nat → Int32)) (w16 : Int32), zf_X8_segmentLength_b26 fu v0 y1 z1 w0 w1 w2 w3 w4 w5 w6 w7 w8 w9 w10 w11 w12 w13 w14 w15 w16 = some res → zgGd G Z ({ frames := 4, cells := 0, slots := 0, locals := 98 } : Room) 0 0 2 [(q0, .inr (7, [.ref q1, .ref q2, .int w2, .ref q3, .int w4, .int w5, .ref q4, .int w7, .ref q5, .ref q6, .ref q7, .int w11, .int w12, .int w13, .int w14, .ref q8, .int w16])), (q1, .inl (G.2.2.1, 946, .inl w0)), (q2, .inl (G.2.2.1, 5676, .inl w1)), (q3, .inl (G.2.2.1, 60, .inl w3)), (q4, .inl (G.2.2.1, 201, .inl w6)), (q5, .inl (G.2.2.1, 201, .inl w8)), (q6, .inl (G.2.2.1, 201, .inl w9)), (q7, .inl (G.2.2.1, 201, .inl w10)), (q8, .inl (G.2.2.1, 201, .inl w15))] 26 [(0, .ref q0), (1, .int y1)] [.int z1, .ref q0] := by
    intro y1 z1 w0 w1 w2 w3 w4 w5 w6 w7 w8 w9 w10 w11 w12 w13 w14 w15 w16 hf
    unfold zf_X8_segmentLength_b26 at hf
    obtain ⟨b4, hb4, hf⟩ := pl_b hf
    refine zg_cU1 (ws2 := [(q0, .inr (7, [.ref q1, .ref q2, .int b4.2.2.2.1, .ref q3, .int b4.2.2.2.2.2.1, .int b4.2.2.2.2.2.2.1, .ref q4, .int b4.2.2.2.2.2.2.2.2.1, .ref q5, .ref q6, .ref q7, .int b4.2.2.2.2.2.2.2.2.2.2.2.2.1, .int b4.2.2.2.2.2.2.2.2.2.2.2.2.2.1, .int b4.2.2.2.2.2.2.2.2.2.2.2.2.2.2.1, .int b4.2.2.2.2.2.2.2.2.2.2.2.2.2.2.2.1, .ref q8, .int b4.2.2.2.2.2.2.2.2.2.2.2.2.2.2.2.2.2])), (q1, .inl (G.2.2.1, 946, .inl b4.2.1)), (q2, .inl (G.2.2.1, 5676, .inl b4.2.2.1)), (q3, .inl (G.2.2.1, 60, .inl b4.2.2.2.2.1)), (q4, .inl (G.2.2.1, 201, .inl b4.2.2.2.2.2.2.2.1)), (q5, .inl (G.2.2.1, 201, .inl b4.2.2.2.2.2.2.2.2.2.1)), (q6, .inl (G.2.2.1, 201, .inl b4.2.2.2.2.2.2.2.2.2.2.1)), (q7, .inl (G.2.2.1, 201, .inl b4.2.2.2.2.2.2.2.2.2.2.2.1)), (q8, .inl (G.2.2.1, 201, .inl b4.2.2.2.2.2.2.2.2.2.2.2.2.2.2.2.2.1))]) X (zg_runV X (zc_X8_refused G q0 q1 q2 q3 q4 q5 q6 q7 q8 (w0, w1, w2, w3, w4, w5, w6, w7, w8, w9, w10, w11, w12, w13, w14, w15, w16) z1 fu b4 hb4) gX8_segmentLength_X8_refused rfl zh_X8_refused ⟨rfl, rfl⟩ ⟨Nat.le_of_ble_eq_true rfl, Nat.le_of_ble_eq_true rfl⟩ rfl rfl rfl (Nat.le_of_ble_eq_true rfl) ⟨Nat.le_of_ble_eq_true rfl, Nat.le_of_ble_eq_true rfl⟩ [0, 1, 2, 3, 4, 5, 6, 7, 8] (by decide) rfl rfl dX8_segmentLength_26) rfl rfl ?_
    refine zg_if_eq (tgt := 34) X dX8_segmentLength_29 (by decide) (fun c5 => ?_) (fun c5 => ?_)
    · have hf := pl_t c5 hf
      refine zg_aload_n X dX8_segmentLength_34 rfl 0 rfl ?_
      refine zg_get (C := RX8) (T := TX8) (N := 17) X 0 9 hiX8 rfl rfl (by decide) hw1 rfl dX8_segmentLength_35 ?_
      refine zg_iload_n X dX8_segmentLength_38 rfl 1 rfl ?_
      obtain ⟨hin, hf⟩ := pl_in hf
      refine zg_iald X 6 rfl hin dX8_segmentLength_39 ?_
      obtain ⟨x6, ex6, hf⟩ := pl_l hf
      refine zg_topi ex6 ?_
      have hf := Option.some.inj hf
      subst hf
      exact zg_iret X hF rfl rfl () rfl rfl (Nat.le_of_ble_eq_true rfl) (Nat.le_of_ble_eq_true rfl) dX8_segmentLength_40
    · have hf := pl_f c5 hf
      refine zg_iconst (v := 0) X dX8_segmentLength_32 (by decide) ?_
      have hf := Option.some.inj hf
      subst hf
      exact zg_iret X hF rfl rfl () rfl rfl (Nat.le_of_ble_eq_true rfl) (Nat.le_of_ble_eq_true rfl) dX8_segmentLength_33
  unfold zf_X8_segmentLength at hf
  refine zg_aload_n X dX8_segmentLength_0 rfl 0 rfl ?_
  refine zg_iconst (v := (-1)) X dX8_segmentLength_1 (by decide) ?_
  refine zg_iconst (v := 0) X dX8_segmentLength_2 (by decide) ?_
  obtain ⟨b1, hb1, hf⟩ := pl_b hf
  refine zg_cU0 (ws2 := [(q0, .inr (7, [.ref q1, .ref q2, .int b1.2.2.1, .ref q3, .int b1.2.2.2.2.1, .int b1.2.2.2.2.2.1, .ref q4, .int b1.2.2.2.2.2.2.2.1, .ref q5, .ref q6, .ref q7, .int b1.2.2.2.2.2.2.2.2.2.2.2.1, .int b1.2.2.2.2.2.2.2.2.2.2.2.2.1, .int b1.2.2.2.2.2.2.2.2.2.2.2.2.2.1, .int b1.2.2.2.2.2.2.2.2.2.2.2.2.2.2.1, .ref q8, .int b1.2.2.2.2.2.2.2.2.2.2.2.2.2.2.2.2])), (q1, .inl (G.2.2.1, 946, .inl b1.1)), (q2, .inl (G.2.2.1, 5676, .inl b1.2.1)), (q3, .inl (G.2.2.1, 60, .inl b1.2.2.2.1)), (q4, .inl (G.2.2.1, 201, .inl b1.2.2.2.2.2.2.1)), (q5, .inl (G.2.2.1, 201, .inl b1.2.2.2.2.2.2.2.2.1)), (q6, .inl (G.2.2.1, 201, .inl b1.2.2.2.2.2.2.2.2.2.1)), (q7, .inl (G.2.2.1, 201, .inl b1.2.2.2.2.2.2.2.2.2.2.1)), (q8, .inl (G.2.2.1, 201, .inl b1.2.2.2.2.2.2.2.2.2.2.2.2.2.2.2.1))]) X (zg_runV X (zc_X8_decodes G q0 q1 q2 q3 q4 q5 q6 q7 q8 v0 (-1) 0 fu b1 hb1) gX8_segmentLength_X8_decodes rfl zh_X8_decodes ⟨rfl, rfl⟩ ⟨Nat.le_of_ble_eq_true rfl, Nat.le_of_ble_eq_true rfl⟩ rfl rfl rfl (Nat.le_of_ble_eq_true rfl) ⟨Nat.le_of_ble_eq_true rfl, Nat.le_of_ble_eq_true rfl⟩ [0, 1, 2, 3, 4, 5, 6, 7, 8] (by decide) rfl rfl dX8_segmentLength_3) rfl rfl ?_
  refine zg_aload_n X dX8_segmentLength_6 rfl 0 rfl ?_
  refine zg_iload_n X dX8_segmentLength_7 rfl 1 rfl ?_
  refine zg_iconst (v := 0) X dX8_segmentLength_8 (by decide) ?_
  refine zg_aload_n X dX8_segmentLength_9 rfl 0 rfl ?_
  refine zg_get (C := RX8) (T := TX8) (N := 17) X 0 11 hiX8 rfl rfl (by decide) hw0 rfl dX8_segmentLength_10 ?_
  refine zg_iconst (v := 1) X dX8_segmentLength_13 (by decide) ?_
  refine zg_isub X dX8_segmentLength_14 ?_
  obtain ⟨b2, hb2, hf⟩ := pl_b hf
  refine zg_cP1 X (zg_runS X (zc_X8_in G a1 0 (b1.2.2.2.2.2.2.2.2.2.2.2.1 - (1 : Int32)) fu b2 hb2) gX8_segmentLength_X8_in rfl zh_X8_in.2 ⟨rfl, rfl⟩ ⟨Nat.le_of_ble_eq_true rfl, Nat.le_of_ble_eq_true rfl⟩ rfl (Nat.le_of_ble_eq_true rfl) ⟨Nat.le_of_ble_eq_true rfl, Nat.le_of_ble_eq_true rfl⟩ [] (by decide) rfl rfl dX8_segmentLength_15) rfl ?_
  refine zg_if_eq (tgt := 25) X dX8_segmentLength_18 (by decide) (fun c3 => ?_) (fun c3 => ?_)
  · have hf := pl_t c3 hf
    refine zg_iconst (v := 1) X dX8_segmentLength_25 (by decide) ?_
    exact hb26 a1 1 b1.1 b1.2.1 b1.2.2.1 b1.2.2.2.1 b1.2.2.2.2.1 b1.2.2.2.2.2.1 b1.2.2.2.2.2.2.1 b1.2.2.2.2.2.2.2.1 b1.2.2.2.2.2.2.2.2.1 b1.2.2.2.2.2.2.2.2.2.1 b1.2.2.2.2.2.2.2.2.2.2.1 b1.2.2.2.2.2.2.2.2.2.2.2.1 b1.2.2.2.2.2.2.2.2.2.2.2.2.1 b1.2.2.2.2.2.2.2.2.2.2.2.2.2.1 b1.2.2.2.2.2.2.2.2.2.2.2.2.2.2.1 b1.2.2.2.2.2.2.2.2.2.2.2.2.2.2.2.1 b1.2.2.2.2.2.2.2.2.2.2.2.2.2.2.2.2 hf
  · have hf := pl_f c3 hf
    refine zg_iconst (v := 0) X dX8_segmentLength_21 (by decide) ?_
    refine zg_goto (tgt := 26) X dX8_segmentLength_22 (by decide) ?_
    exact hb26 a1 0 b1.1 b1.2.1 b1.2.2.1 b1.2.2.2.1 b1.2.2.2.2.1 b1.2.2.2.2.2.1 b1.2.2.2.2.2.2.1 b1.2.2.2.2.2.2.2.1 b1.2.2.2.2.2.2.2.2.1 b1.2.2.2.2.2.2.2.2.2.1 b1.2.2.2.2.2.2.2.2.2.2.1 b1.2.2.2.2.2.2.2.2.2.2.2.1 b1.2.2.2.2.2.2.2.2.2.2.2.2.1 b1.2.2.2.2.2.2.2.2.2.2.2.2.2.1 b1.2.2.2.2.2.2.2.2.2.2.2.2.2.2.1 b1.2.2.2.2.2.2.2.2.2.2.2.2.2.2.2.1 b1.2.2.2.2.2.2.2.2.2.2.2.2.2.2.2.2 hf
theorem zh_X8_segmentKind : yX8_segmentKind.cls = RX8 ∧ yX8_segmentKind.cls ≠ "java/lang/invoke/MethodHandle" ∧ yX8_segmentKind.cls ≠ "java/lang/invoke/VarHandle" ∧ (parseMethodDescriptor yX8_segmentKind.desc).map (fun d => d.parameters.length) = some 1 := by decide +kernel
set_option maxHeartbeats 8000000 in
set_option maxRecDepth 100000 in
theorem zc_X8_segmentKind (G : zgG) (q0 q1 q2 q3 q4 q5 q6 q7 q8 : Nat) (v0 : zModel) (a1 : Int32) (fu : Nat) (res : (Int32 × zModel)) (hf : zf_X8_segmentKind fu v0 a1 = some res) : zgCt G yX8_segmentKind wsX8_segmentKind ({ frames := 4, cells := 0, slots := 0, locals := 98 } : Room) [.ref q0, .int a1] [(q0, .inr (7, [.ref q1, .ref q2, .int v0.2.2.1, .ref q3, .int v0.2.2.2.2.1, .int v0.2.2.2.2.2.1, .ref q4, .int v0.2.2.2.2.2.2.2.1, .ref q5, .ref q6, .ref q7, .int v0.2.2.2.2.2.2.2.2.2.2.2.1, .int v0.2.2.2.2.2.2.2.2.2.2.2.2.1, .int v0.2.2.2.2.2.2.2.2.2.2.2.2.2.1, .int v0.2.2.2.2.2.2.2.2.2.2.2.2.2.2.1, .ref q8, .int v0.2.2.2.2.2.2.2.2.2.2.2.2.2.2.2.2])), (q1, .inl (G.2.2.1, 946, .inl v0.1)), (q2, .inl (G.2.2.1, 5676, .inl v0.2.1)), (q3, .inl (G.2.2.1, 60, .inl v0.2.2.2.1)), (q4, .inl (G.2.2.1, 201, .inl v0.2.2.2.2.2.2.1)), (q5, .inl (G.2.2.1, 201, .inl v0.2.2.2.2.2.2.2.2.1)), (q6, .inl (G.2.2.1, 201, .inl v0.2.2.2.2.2.2.2.2.2.1)), (q7, .inl (G.2.2.1, 201, .inl v0.2.2.2.2.2.2.2.2.2.2.1)), (q8, .inl (G.2.2.1, 201, .inl v0.2.2.2.2.2.2.2.2.2.2.2.2.2.2.2.1))] (fun _ : Unit => some (.int res.1)) (fun _ => [(q0, .inr (7, [.ref q1, .ref q2, .int res.2.2.2.1, .ref q3, .int res.2.2.2.2.2.1, .int res.2.2.2.2.2.2.1, .ref q4, .int res.2.2.2.2.2.2.2.2.1, .ref q5, .ref q6, .ref q7, .int res.2.2.2.2.2.2.2.2.2.2.2.2.1, .int res.2.2.2.2.2.2.2.2.2.2.2.2.2.1, .int res.2.2.2.2.2.2.2.2.2.2.2.2.2.2.1, .int res.2.2.2.2.2.2.2.2.2.2.2.2.2.2.2.1, .ref q8, .int res.2.2.2.2.2.2.2.2.2.2.2.2.2.2.2.2.2])), (q1, .inl (G.2.2.1, 946, .inl res.2.1)), (q2, .inl (G.2.2.1, 5676, .inl res.2.2.1)), (q3, .inl (G.2.2.1, 60, .inl res.2.2.2.2.1)), (q4, .inl (G.2.2.1, 201, .inl res.2.2.2.2.2.2.2.1)), (q5, .inl (G.2.2.1, 201, .inl res.2.2.2.2.2.2.2.2.2.1)), (q6, .inl (G.2.2.1, 201, .inl res.2.2.2.2.2.2.2.2.2.2.1)), (q7, .inl (G.2.2.1, 201, .inl res.2.2.2.2.2.2.2.2.2.2.2.1)), (q8, .inl (G.2.2.1, 201, .inl res.2.2.2.2.2.2.2.2.2.2.2.2.2.2.2.2.1))]) 0 0 := by
  have hw0 : Cond.fieldLink RX8 97 "TelexReceiverModel" "segments" "I" ∈ wsX8_segmentKind := by decide +kernel
  have hw1 : Cond.fieldLink RX8 28 "TelexReceiverModel" "kind" "[I" ∈ wsX8_segmentKind := by decide +kernel
  have hiX8 : ∀ w ∈ u_ws RX8 TX8 17, w ∈ wsX8_segmentKind := by decide +kernel
  refine zg_of (own := RX8) (cc := cX8_segmentKind) (nL := 2) (ret := (some .int)) (by decide +kernel) rfl rfl (Nat.le_of_ble_eq_true rfl) (fun Z X hF => ?_)
  show zgGd G Z _ 0 0 2 _ 0 [(0, .ref q0), (1, .int a1)] []
  have hb26 : ∀ (y1 : Int32) (z1 : Int32) (w0 : (Nat → Int32)) (w1 : (Nat → Int32)) (w2 : Int32) (w3 : (Nat → Int32)) (w4 : Int32) (w5 : Int32) (w6 : (Nat → Int32)) (w7 : Int32) (w8 : (Nat → Int32)) (w9 : (Nat → Int32)) (w10 : (Nat → Int32)) (w11 : Int32) (w12 : Int32) (w13 : Int32) (w14 : Int32) (w15 : (Nat → Int32)) (w16 : Int32), zf_X8_segmentKind_b26 fu v0 y1 z1 w0 w1 w2 w3 w4 w5 w6 w7 w8 w9 w10 w11 w12 w13 w14 w15 w16 = some res → zgGd G Z ({ frames := 4, cells := 0, slots := 0, locals := 98 } : Room) 0 0 2 [(q0, .inr (7, [.ref q1, .ref q2, .int w2, .ref q3, .int w4, .int w5, .ref q4, .int w7, .ref q5, .ref q6, .ref q7, .int w11, .int w12, .int w13, .int w14, .ref q8, .int w16])), (q1, .inl (G.2.2.1, 946, .inl w0)), (q2, .inl (G.2.2.1, 5676, .inl w1)), (q3, .inl (G.2.2.1, 60, .inl w3)), (q4, .inl (G.2.2.1, 201, .inl w6)), (q5, .inl (G.2.2.1, 201, .inl w8)), (q6, .inl (G.2.2.1, 201, .inl w9)), (q7, .inl (G.2.2.1, 201, .inl w10)), (q8, .inl (G.2.2.1, 201, .inl w15))] 26 [(0, .ref q0), (1, .int y1)] [.int z1, .ref q0] := by
    intro y1 z1 w0 w1 w2 w3 w4 w5 w6 w7 w8 w9 w10 w11 w12 w13 w14 w15 w16 hf
    unfold zf_X8_segmentKind_b26 at hf
    obtain ⟨b4, hb4, hf⟩ := pl_b hf
    refine zg_cU1 (ws2 := [(q0, .inr (7, [.ref q1, .ref q2, .int b4.2.2.2.1, .ref q3, .int b4.2.2.2.2.2.1, .int b4.2.2.2.2.2.2.1, .ref q4, .int b4.2.2.2.2.2.2.2.2.1, .ref q5, .ref q6, .ref q7, .int b4.2.2.2.2.2.2.2.2.2.2.2.2.1, .int b4.2.2.2.2.2.2.2.2.2.2.2.2.2.1, .int b4.2.2.2.2.2.2.2.2.2.2.2.2.2.2.1, .int b4.2.2.2.2.2.2.2.2.2.2.2.2.2.2.2.1, .ref q8, .int b4.2.2.2.2.2.2.2.2.2.2.2.2.2.2.2.2.2])), (q1, .inl (G.2.2.1, 946, .inl b4.2.1)), (q2, .inl (G.2.2.1, 5676, .inl b4.2.2.1)), (q3, .inl (G.2.2.1, 60, .inl b4.2.2.2.2.1)), (q4, .inl (G.2.2.1, 201, .inl b4.2.2.2.2.2.2.2.1)), (q5, .inl (G.2.2.1, 201, .inl b4.2.2.2.2.2.2.2.2.2.1)), (q6, .inl (G.2.2.1, 201, .inl b4.2.2.2.2.2.2.2.2.2.2.1)), (q7, .inl (G.2.2.1, 201, .inl b4.2.2.2.2.2.2.2.2.2.2.2.1)), (q8, .inl (G.2.2.1, 201, .inl b4.2.2.2.2.2.2.2.2.2.2.2.2.2.2.2.2.1))]) X (zg_runV X (zc_X8_refused G q0 q1 q2 q3 q4 q5 q6 q7 q8 (w0, w1, w2, w3, w4, w5, w6, w7, w8, w9, w10, w11, w12, w13, w14, w15, w16) z1 fu b4 hb4) gX8_segmentKind_X8_refused rfl zh_X8_refused ⟨rfl, rfl⟩ ⟨Nat.le_of_ble_eq_true rfl, Nat.le_of_ble_eq_true rfl⟩ rfl rfl rfl (Nat.le_of_ble_eq_true rfl) ⟨Nat.le_of_ble_eq_true rfl, Nat.le_of_ble_eq_true rfl⟩ [0, 1, 2, 3, 4, 5, 6, 7, 8] (by decide) rfl rfl dX8_segmentKind_26) rfl rfl ?_
    refine zg_if_eq (tgt := 34) X dX8_segmentKind_29 (by decide) (fun c5 => ?_) (fun c5 => ?_)
    · have hf := pl_t c5 hf
      refine zg_aload_n X dX8_segmentKind_34 rfl 0 rfl ?_
      refine zg_get (C := RX8) (T := TX8) (N := 17) X 0 10 hiX8 rfl rfl (by decide) hw1 rfl dX8_segmentKind_35 ?_
      refine zg_iload_n X dX8_segmentKind_38 rfl 1 rfl ?_
      obtain ⟨hin, hf⟩ := pl_in hf
      refine zg_iald X 7 rfl hin dX8_segmentKind_39 ?_
      obtain ⟨x6, ex6, hf⟩ := pl_l hf
      refine zg_topi ex6 ?_
      have hf := Option.some.inj hf
      subst hf
      exact zg_iret X hF rfl rfl () rfl rfl (Nat.le_of_ble_eq_true rfl) (Nat.le_of_ble_eq_true rfl) dX8_segmentKind_40
    · have hf := pl_f c5 hf
      refine zg_iconst (v := 0) X dX8_segmentKind_32 (by decide) ?_
      have hf := Option.some.inj hf
      subst hf
      exact zg_iret X hF rfl rfl () rfl rfl (Nat.le_of_ble_eq_true rfl) (Nat.le_of_ble_eq_true rfl) dX8_segmentKind_33
  unfold zf_X8_segmentKind at hf
  refine zg_aload_n X dX8_segmentKind_0 rfl 0 rfl ?_
  refine zg_iconst (v := (-1)) X dX8_segmentKind_1 (by decide) ?_
  refine zg_iconst (v := 0) X dX8_segmentKind_2 (by decide) ?_
  obtain ⟨b1, hb1, hf⟩ := pl_b hf
  refine zg_cU0 (ws2 := [(q0, .inr (7, [.ref q1, .ref q2, .int b1.2.2.1, .ref q3, .int b1.2.2.2.2.1, .int b1.2.2.2.2.2.1, .ref q4, .int b1.2.2.2.2.2.2.2.1, .ref q5, .ref q6, .ref q7, .int b1.2.2.2.2.2.2.2.2.2.2.2.1, .int b1.2.2.2.2.2.2.2.2.2.2.2.2.1, .int b1.2.2.2.2.2.2.2.2.2.2.2.2.2.1, .int b1.2.2.2.2.2.2.2.2.2.2.2.2.2.2.1, .ref q8, .int b1.2.2.2.2.2.2.2.2.2.2.2.2.2.2.2.2])), (q1, .inl (G.2.2.1, 946, .inl b1.1)), (q2, .inl (G.2.2.1, 5676, .inl b1.2.1)), (q3, .inl (G.2.2.1, 60, .inl b1.2.2.2.1)), (q4, .inl (G.2.2.1, 201, .inl b1.2.2.2.2.2.2.1)), (q5, .inl (G.2.2.1, 201, .inl b1.2.2.2.2.2.2.2.2.1)), (q6, .inl (G.2.2.1, 201, .inl b1.2.2.2.2.2.2.2.2.2.1)), (q7, .inl (G.2.2.1, 201, .inl b1.2.2.2.2.2.2.2.2.2.2.1)), (q8, .inl (G.2.2.1, 201, .inl b1.2.2.2.2.2.2.2.2.2.2.2.2.2.2.2.1))]) X (zg_runV X (zc_X8_decodes G q0 q1 q2 q3 q4 q5 q6 q7 q8 v0 (-1) 0 fu b1 hb1) gX8_segmentKind_X8_decodes rfl zh_X8_decodes ⟨rfl, rfl⟩ ⟨Nat.le_of_ble_eq_true rfl, Nat.le_of_ble_eq_true rfl⟩ rfl rfl rfl (Nat.le_of_ble_eq_true rfl) ⟨Nat.le_of_ble_eq_true rfl, Nat.le_of_ble_eq_true rfl⟩ [0, 1, 2, 3, 4, 5, 6, 7, 8] (by decide) rfl rfl dX8_segmentKind_3) rfl rfl ?_
  refine zg_aload_n X dX8_segmentKind_6 rfl 0 rfl ?_
  refine zg_iload_n X dX8_segmentKind_7 rfl 1 rfl ?_
  refine zg_iconst (v := 0) X dX8_segmentKind_8 (by decide) ?_
  refine zg_aload_n X dX8_segmentKind_9 rfl 0 rfl ?_
  refine zg_get (C := RX8) (T := TX8) (N := 17) X 0 11 hiX8 rfl rfl (by decide) hw0 rfl dX8_segmentKind_10 ?_
  refine zg_iconst (v := 1) X dX8_segmentKind_13 (by decide) ?_
  refine zg_isub X dX8_segmentKind_14 ?_
  obtain ⟨b2, hb2, hf⟩ := pl_b hf
  refine zg_cP1 X (zg_runS X (zc_X8_in G a1 0 (b1.2.2.2.2.2.2.2.2.2.2.2.1 - (1 : Int32)) fu b2 hb2) gX8_segmentKind_X8_in rfl zh_X8_in.2 ⟨rfl, rfl⟩ ⟨Nat.le_of_ble_eq_true rfl, Nat.le_of_ble_eq_true rfl⟩ rfl (Nat.le_of_ble_eq_true rfl) ⟨Nat.le_of_ble_eq_true rfl, Nat.le_of_ble_eq_true rfl⟩ [] (by decide) rfl rfl dX8_segmentKind_15) rfl ?_
  refine zg_if_eq (tgt := 25) X dX8_segmentKind_18 (by decide) (fun c3 => ?_) (fun c3 => ?_)
  · have hf := pl_t c3 hf
    refine zg_iconst (v := 1) X dX8_segmentKind_25 (by decide) ?_
    exact hb26 a1 1 b1.1 b1.2.1 b1.2.2.1 b1.2.2.2.1 b1.2.2.2.2.1 b1.2.2.2.2.2.1 b1.2.2.2.2.2.2.1 b1.2.2.2.2.2.2.2.1 b1.2.2.2.2.2.2.2.2.1 b1.2.2.2.2.2.2.2.2.2.1 b1.2.2.2.2.2.2.2.2.2.2.1 b1.2.2.2.2.2.2.2.2.2.2.2.1 b1.2.2.2.2.2.2.2.2.2.2.2.2.1 b1.2.2.2.2.2.2.2.2.2.2.2.2.2.1 b1.2.2.2.2.2.2.2.2.2.2.2.2.2.2.1 b1.2.2.2.2.2.2.2.2.2.2.2.2.2.2.2.1 b1.2.2.2.2.2.2.2.2.2.2.2.2.2.2.2.2 hf
  · have hf := pl_f c3 hf
    refine zg_iconst (v := 0) X dX8_segmentKind_21 (by decide) ?_
    refine zg_goto (tgt := 26) X dX8_segmentKind_22 (by decide) ?_
    exact hb26 a1 0 b1.1 b1.2.1 b1.2.2.1 b1.2.2.2.1 b1.2.2.2.2.1 b1.2.2.2.2.2.1 b1.2.2.2.2.2.2.1 b1.2.2.2.2.2.2.2.1 b1.2.2.2.2.2.2.2.2.1 b1.2.2.2.2.2.2.2.2.2.1 b1.2.2.2.2.2.2.2.2.2.2.1 b1.2.2.2.2.2.2.2.2.2.2.2.1 b1.2.2.2.2.2.2.2.2.2.2.2.2.1 b1.2.2.2.2.2.2.2.2.2.2.2.2.2.1 b1.2.2.2.2.2.2.2.2.2.2.2.2.2.2.1 b1.2.2.2.2.2.2.2.2.2.2.2.2.2.2.2.1 b1.2.2.2.2.2.2.2.2.2.2.2.2.2.2.2.2 hf
theorem zh_X8_guesses : yX8_guesses.cls = RX8 ∧ yX8_guesses.cls ≠ "java/lang/invoke/MethodHandle" ∧ yX8_guesses.cls ≠ "java/lang/invoke/VarHandle" ∧ (parseMethodDescriptor yX8_guesses.desc).map (fun d => d.parameters.length) = some 0 := by decide +kernel
set_option maxHeartbeats 8000000 in
set_option maxRecDepth 100000 in
theorem zc_X8_guesses (G : zgG) (q0 q1 q2 q3 q4 q5 q6 q7 q8 : Nat) (v0 : zModel) (fu : Nat) (res : (Int32 × zModel)) (hf : zf_X8_guesses fu v0 = some res) : zgCt G yX8_guesses wsX8_guesses ({ frames := 4, cells := 0, slots := 0, locals := 98 } : Room) [.ref q0] [(q0, .inr (7, [.ref q1, .ref q2, .int v0.2.2.1, .ref q3, .int v0.2.2.2.2.1, .int v0.2.2.2.2.2.1, .ref q4, .int v0.2.2.2.2.2.2.2.1, .ref q5, .ref q6, .ref q7, .int v0.2.2.2.2.2.2.2.2.2.2.2.1, .int v0.2.2.2.2.2.2.2.2.2.2.2.2.1, .int v0.2.2.2.2.2.2.2.2.2.2.2.2.2.1, .int v0.2.2.2.2.2.2.2.2.2.2.2.2.2.2.1, .ref q8, .int v0.2.2.2.2.2.2.2.2.2.2.2.2.2.2.2.2])), (q1, .inl (G.2.2.1, 946, .inl v0.1)), (q2, .inl (G.2.2.1, 5676, .inl v0.2.1)), (q3, .inl (G.2.2.1, 60, .inl v0.2.2.2.1)), (q4, .inl (G.2.2.1, 201, .inl v0.2.2.2.2.2.2.1)), (q5, .inl (G.2.2.1, 201, .inl v0.2.2.2.2.2.2.2.2.1)), (q6, .inl (G.2.2.1, 201, .inl v0.2.2.2.2.2.2.2.2.2.1)), (q7, .inl (G.2.2.1, 201, .inl v0.2.2.2.2.2.2.2.2.2.2.1)), (q8, .inl (G.2.2.1, 201, .inl v0.2.2.2.2.2.2.2.2.2.2.2.2.2.2.2.1))] (fun _ : Unit => some (.int res.1)) (fun _ => [(q0, .inr (7, [.ref q1, .ref q2, .int res.2.2.2.1, .ref q3, .int res.2.2.2.2.2.1, .int res.2.2.2.2.2.2.1, .ref q4, .int res.2.2.2.2.2.2.2.2.1, .ref q5, .ref q6, .ref q7, .int res.2.2.2.2.2.2.2.2.2.2.2.2.1, .int res.2.2.2.2.2.2.2.2.2.2.2.2.2.1, .int res.2.2.2.2.2.2.2.2.2.2.2.2.2.2.1, .int res.2.2.2.2.2.2.2.2.2.2.2.2.2.2.2.1, .ref q8, .int res.2.2.2.2.2.2.2.2.2.2.2.2.2.2.2.2.2])), (q1, .inl (G.2.2.1, 946, .inl res.2.1)), (q2, .inl (G.2.2.1, 5676, .inl res.2.2.1)), (q3, .inl (G.2.2.1, 60, .inl res.2.2.2.2.1)), (q4, .inl (G.2.2.1, 201, .inl res.2.2.2.2.2.2.2.1)), (q5, .inl (G.2.2.1, 201, .inl res.2.2.2.2.2.2.2.2.2.1)), (q6, .inl (G.2.2.1, 201, .inl res.2.2.2.2.2.2.2.2.2.2.1)), (q7, .inl (G.2.2.1, 201, .inl res.2.2.2.2.2.2.2.2.2.2.2.1)), (q8, .inl (G.2.2.1, 201, .inl res.2.2.2.2.2.2.2.2.2.2.2.2.2.2.2.2.1))]) 0 0 := by
  have hw0 : Cond.fieldLink RX8 38 "TelexReceiverModel" "thrown" "I" ∈ wsX8_guesses := by decide +kernel
  have hiX8 : ∀ w ∈ u_ws RX8 TX8 17, w ∈ wsX8_guesses := by decide +kernel
  refine zg_of (own := RX8) (cc := cX8_guesses) (nL := 1) (ret := (some .int)) (by decide +kernel) rfl rfl (Nat.le_of_ble_eq_true rfl) (fun Z X hF => ?_)
  show zgGd G Z _ 0 0 1 _ 0 [(0, .ref q0)] []
  unfold zf_X8_guesses at hf
  refine zg_aload_n X dX8_guesses_0 rfl 0 rfl ?_
  refine zg_iconst (v := 0) X dX8_guesses_1 (by decide) ?_
  refine zg_put (C := RX8) (T := TX8) (N := 17) (ty := .int) (ws' := [(q0, .inr (7, [.ref q1, .ref q2, .int v0.2.2.1, .ref q3, .int v0.2.2.2.2.1, .int 0, .ref q4, .int v0.2.2.2.2.2.2.2.1, .ref q5, .ref q6, .ref q7, .int v0.2.2.2.2.2.2.2.2.2.2.2.1, .int v0.2.2.2.2.2.2.2.2.2.2.2.2.1, .int v0.2.2.2.2.2.2.2.2.2.2.2.2.2.1, .int v0.2.2.2.2.2.2.2.2.2.2.2.2.2.2.1, .ref q8, .int v0.2.2.2.2.2.2.2.2.2.2.2.2.2.2.2.2])), (q1, .inl (G.2.2.1, 946, .inl v0.1)), (q2, .inl (G.2.2.1, 5676, .inl v0.2.1)), (q3, .inl (G.2.2.1, 60, .inl v0.2.2.2.1)), (q4, .inl (G.2.2.1, 201, .inl v0.2.2.2.2.2.2.1)), (q5, .inl (G.2.2.1, 201, .inl v0.2.2.2.2.2.2.2.2.1)), (q6, .inl (G.2.2.1, 201, .inl v0.2.2.2.2.2.2.2.2.2.1)), (q7, .inl (G.2.2.1, 201, .inl v0.2.2.2.2.2.2.2.2.2.2.1)), (q8, .inl (G.2.2.1, 201, .inl v0.2.2.2.2.2.2.2.2.2.2.2.2.2.2.2.1))]) X 0 5 hiX8 tyX8 tyX8_ok nmX8 rfl rfl (by decide) hw0 rfl (by decide +kernel) rfl rfl (Nat.le_of_ble_eq_true rfl) rfl dX8_guesses_2 ?_
  refine zg_aload_n X dX8_guesses_5 rfl 0 rfl ?_
  refine zg_iconst (v := (-1)) X dX8_guesses_6 (by decide) ?_
  refine zg_iconst (v := 0) X dX8_guesses_7 (by decide) ?_
  obtain ⟨b1, hb1, hf⟩ := pl_b hf
  refine zg_cU0 (ws2 := [(q0, .inr (7, [.ref q1, .ref q2, .int b1.2.2.1, .ref q3, .int b1.2.2.2.2.1, .int b1.2.2.2.2.2.1, .ref q4, .int b1.2.2.2.2.2.2.2.1, .ref q5, .ref q6, .ref q7, .int b1.2.2.2.2.2.2.2.2.2.2.2.1, .int b1.2.2.2.2.2.2.2.2.2.2.2.2.1, .int b1.2.2.2.2.2.2.2.2.2.2.2.2.2.1, .int b1.2.2.2.2.2.2.2.2.2.2.2.2.2.2.1, .ref q8, .int b1.2.2.2.2.2.2.2.2.2.2.2.2.2.2.2.2])), (q1, .inl (G.2.2.1, 946, .inl b1.1)), (q2, .inl (G.2.2.1, 5676, .inl b1.2.1)), (q3, .inl (G.2.2.1, 60, .inl b1.2.2.2.1)), (q4, .inl (G.2.2.1, 201, .inl b1.2.2.2.2.2.2.1)), (q5, .inl (G.2.2.1, 201, .inl b1.2.2.2.2.2.2.2.2.1)), (q6, .inl (G.2.2.1, 201, .inl b1.2.2.2.2.2.2.2.2.2.1)), (q7, .inl (G.2.2.1, 201, .inl b1.2.2.2.2.2.2.2.2.2.2.1)), (q8, .inl (G.2.2.1, 201, .inl b1.2.2.2.2.2.2.2.2.2.2.2.2.2.2.2.1))]) X (zg_runV X (zc_X8_decodes G q0 q1 q2 q3 q4 q5 q6 q7 q8 (v0.1, v0.2.1, v0.2.2.1, v0.2.2.2.1, v0.2.2.2.2.1, 0, v0.2.2.2.2.2.2.1, v0.2.2.2.2.2.2.2.1, v0.2.2.2.2.2.2.2.2.1, v0.2.2.2.2.2.2.2.2.2.1, v0.2.2.2.2.2.2.2.2.2.2.1, v0.2.2.2.2.2.2.2.2.2.2.2.1, v0.2.2.2.2.2.2.2.2.2.2.2.2.1, v0.2.2.2.2.2.2.2.2.2.2.2.2.2.1, v0.2.2.2.2.2.2.2.2.2.2.2.2.2.2.1, v0.2.2.2.2.2.2.2.2.2.2.2.2.2.2.2.1, v0.2.2.2.2.2.2.2.2.2.2.2.2.2.2.2.2) (-1) 0 fu b1 hb1) gX8_guesses_X8_decodes rfl zh_X8_decodes ⟨rfl, rfl⟩ ⟨Nat.le_of_ble_eq_true rfl, Nat.le_of_ble_eq_true rfl⟩ rfl rfl rfl (Nat.le_of_ble_eq_true rfl) ⟨Nat.le_of_ble_eq_true rfl, Nat.le_of_ble_eq_true rfl⟩ [0, 1, 2, 3, 4, 5, 6, 7, 8] (by decide) rfl rfl dX8_guesses_8) rfl rfl ?_
  refine zg_aload_n X dX8_guesses_11 rfl 0 rfl ?_
  refine zg_iconst (v := 2) X dX8_guesses_12 (by decide) ?_
  obtain ⟨b2, hb2, hf⟩ := pl_b hf
  refine zg_cP1 X (zg_runV X (zc_X8_withBit G q0 q1 q2 q3 q4 q5 q6 q7 q8 b1 2 fu b2 hb2) gX8_guesses_X8_withBit rfl zh_X8_withBit ⟨rfl, rfl⟩ ⟨Nat.le_of_ble_eq_true rfl, Nat.le_of_ble_eq_true rfl⟩ rfl rfl rfl (Nat.le_of_ble_eq_true rfl) ⟨Nat.le_of_ble_eq_true rfl, Nat.le_of_ble_eq_true rfl⟩ [0, 1, 2, 3, 4, 5, 6, 7, 8] (by decide) rfl rfl dX8_guesses_13) rfl ?_
  have hf := Option.some.inj hf
  subst hf
  exact zg_iret X hF rfl rfl () rfl rfl (Nat.le_of_ble_eq_true rfl) (Nat.le_of_ble_eq_true rfl) dX8_guesses_16
theorem zh_X8_doubtful : yX8_doubtful.cls = RX8 ∧ yX8_doubtful.cls ≠ "java/lang/invoke/MethodHandle" ∧ yX8_doubtful.cls ≠ "java/lang/invoke/VarHandle" ∧ (parseMethodDescriptor yX8_doubtful.desc).map (fun d => d.parameters.length) = some 0 := by decide +kernel
set_option maxHeartbeats 8000000 in
set_option maxRecDepth 100000 in
theorem zc_X8_doubtful (G : zgG) (q0 q1 q2 q3 q4 q5 q6 q7 q8 : Nat) (v0 : zModel) (fu : Nat) (res : (Int32 × zModel)) (hf : zf_X8_doubtful fu v0 = some res) : zgCt G yX8_doubtful wsX8_doubtful ({ frames := 4, cells := 0, slots := 0, locals := 98 } : Room) [.ref q0] [(q0, .inr (7, [.ref q1, .ref q2, .int v0.2.2.1, .ref q3, .int v0.2.2.2.2.1, .int v0.2.2.2.2.2.1, .ref q4, .int v0.2.2.2.2.2.2.2.1, .ref q5, .ref q6, .ref q7, .int v0.2.2.2.2.2.2.2.2.2.2.2.1, .int v0.2.2.2.2.2.2.2.2.2.2.2.2.1, .int v0.2.2.2.2.2.2.2.2.2.2.2.2.2.1, .int v0.2.2.2.2.2.2.2.2.2.2.2.2.2.2.1, .ref q8, .int v0.2.2.2.2.2.2.2.2.2.2.2.2.2.2.2.2])), (q1, .inl (G.2.2.1, 946, .inl v0.1)), (q2, .inl (G.2.2.1, 5676, .inl v0.2.1)), (q3, .inl (G.2.2.1, 60, .inl v0.2.2.2.1)), (q4, .inl (G.2.2.1, 201, .inl v0.2.2.2.2.2.2.1)), (q5, .inl (G.2.2.1, 201, .inl v0.2.2.2.2.2.2.2.2.1)), (q6, .inl (G.2.2.1, 201, .inl v0.2.2.2.2.2.2.2.2.2.1)), (q7, .inl (G.2.2.1, 201, .inl v0.2.2.2.2.2.2.2.2.2.2.1)), (q8, .inl (G.2.2.1, 201, .inl v0.2.2.2.2.2.2.2.2.2.2.2.2.2.2.2.1))] (fun _ : Unit => some (.int res.1)) (fun _ => [(q0, .inr (7, [.ref q1, .ref q2, .int res.2.2.2.1, .ref q3, .int res.2.2.2.2.2.1, .int res.2.2.2.2.2.2.1, .ref q4, .int res.2.2.2.2.2.2.2.2.1, .ref q5, .ref q6, .ref q7, .int res.2.2.2.2.2.2.2.2.2.2.2.2.1, .int res.2.2.2.2.2.2.2.2.2.2.2.2.2.1, .int res.2.2.2.2.2.2.2.2.2.2.2.2.2.2.1, .int res.2.2.2.2.2.2.2.2.2.2.2.2.2.2.2.1, .ref q8, .int res.2.2.2.2.2.2.2.2.2.2.2.2.2.2.2.2.2])), (q1, .inl (G.2.2.1, 946, .inl res.2.1)), (q2, .inl (G.2.2.1, 5676, .inl res.2.2.1)), (q3, .inl (G.2.2.1, 60, .inl res.2.2.2.2.1)), (q4, .inl (G.2.2.1, 201, .inl res.2.2.2.2.2.2.2.1)), (q5, .inl (G.2.2.1, 201, .inl res.2.2.2.2.2.2.2.2.2.1)), (q6, .inl (G.2.2.1, 201, .inl res.2.2.2.2.2.2.2.2.2.2.1)), (q7, .inl (G.2.2.1, 201, .inl res.2.2.2.2.2.2.2.2.2.2.2.1)), (q8, .inl (G.2.2.1, 201, .inl res.2.2.2.2.2.2.2.2.2.2.2.2.2.2.2.2.1))]) 0 0 := by
  have hw0 : Cond.fieldLink RX8 38 "TelexReceiverModel" "thrown" "I" ∈ wsX8_doubtful := by decide +kernel
  have hiX8 : ∀ w ∈ u_ws RX8 TX8 17, w ∈ wsX8_doubtful := by decide +kernel
  refine zg_of (own := RX8) (cc := cX8_doubtful) (nL := 1) (ret := (some .int)) (by decide +kernel) rfl rfl (Nat.le_of_ble_eq_true rfl) (fun Z X hF => ?_)
  show zgGd G Z _ 0 0 1 _ 0 [(0, .ref q0)] []
  unfold zf_X8_doubtful at hf
  refine zg_aload_n X dX8_doubtful_0 rfl 0 rfl ?_
  refine zg_iconst (v := 0) X dX8_doubtful_1 (by decide) ?_
  refine zg_put (C := RX8) (T := TX8) (N := 17) (ty := .int) (ws' := [(q0, .inr (7, [.ref q1, .ref q2, .int v0.2.2.1, .ref q3, .int v0.2.2.2.2.1, .int 0, .ref q4, .int v0.2.2.2.2.2.2.2.1, .ref q5, .ref q6, .ref q7, .int v0.2.2.2.2.2.2.2.2.2.2.2.1, .int v0.2.2.2.2.2.2.2.2.2.2.2.2.1, .int v0.2.2.2.2.2.2.2.2.2.2.2.2.2.1, .int v0.2.2.2.2.2.2.2.2.2.2.2.2.2.2.1, .ref q8, .int v0.2.2.2.2.2.2.2.2.2.2.2.2.2.2.2.2])), (q1, .inl (G.2.2.1, 946, .inl v0.1)), (q2, .inl (G.2.2.1, 5676, .inl v0.2.1)), (q3, .inl (G.2.2.1, 60, .inl v0.2.2.2.1)), (q4, .inl (G.2.2.1, 201, .inl v0.2.2.2.2.2.2.1)), (q5, .inl (G.2.2.1, 201, .inl v0.2.2.2.2.2.2.2.2.1)), (q6, .inl (G.2.2.1, 201, .inl v0.2.2.2.2.2.2.2.2.2.1)), (q7, .inl (G.2.2.1, 201, .inl v0.2.2.2.2.2.2.2.2.2.2.1)), (q8, .inl (G.2.2.1, 201, .inl v0.2.2.2.2.2.2.2.2.2.2.2.2.2.2.2.1))]) X 0 5 hiX8 tyX8 tyX8_ok nmX8 rfl rfl (by decide) hw0 rfl (by decide +kernel) rfl rfl (Nat.le_of_ble_eq_true rfl) rfl dX8_doubtful_2 ?_
  refine zg_aload_n X dX8_doubtful_5 rfl 0 rfl ?_
  refine zg_iconst (v := (-1)) X dX8_doubtful_6 (by decide) ?_
  refine zg_iconst (v := 0) X dX8_doubtful_7 (by decide) ?_
  obtain ⟨b1, hb1, hf⟩ := pl_b hf
  refine zg_cU0 (ws2 := [(q0, .inr (7, [.ref q1, .ref q2, .int b1.2.2.1, .ref q3, .int b1.2.2.2.2.1, .int b1.2.2.2.2.2.1, .ref q4, .int b1.2.2.2.2.2.2.2.1, .ref q5, .ref q6, .ref q7, .int b1.2.2.2.2.2.2.2.2.2.2.2.1, .int b1.2.2.2.2.2.2.2.2.2.2.2.2.1, .int b1.2.2.2.2.2.2.2.2.2.2.2.2.2.1, .int b1.2.2.2.2.2.2.2.2.2.2.2.2.2.2.1, .ref q8, .int b1.2.2.2.2.2.2.2.2.2.2.2.2.2.2.2.2])), (q1, .inl (G.2.2.1, 946, .inl b1.1)), (q2, .inl (G.2.2.1, 5676, .inl b1.2.1)), (q3, .inl (G.2.2.1, 60, .inl b1.2.2.2.1)), (q4, .inl (G.2.2.1, 201, .inl b1.2.2.2.2.2.2.1)), (q5, .inl (G.2.2.1, 201, .inl b1.2.2.2.2.2.2.2.2.1)), (q6, .inl (G.2.2.1, 201, .inl b1.2.2.2.2.2.2.2.2.2.1)), (q7, .inl (G.2.2.1, 201, .inl b1.2.2.2.2.2.2.2.2.2.2.1)), (q8, .inl (G.2.2.1, 201, .inl b1.2.2.2.2.2.2.2.2.2.2.2.2.2.2.2.1))]) X (zg_runV X (zc_X8_decodes G q0 q1 q2 q3 q4 q5 q6 q7 q8 (v0.1, v0.2.1, v0.2.2.1, v0.2.2.2.1, v0.2.2.2.2.1, 0, v0.2.2.2.2.2.2.1, v0.2.2.2.2.2.2.2.1, v0.2.2.2.2.2.2.2.2.1, v0.2.2.2.2.2.2.2.2.2.1, v0.2.2.2.2.2.2.2.2.2.2.1, v0.2.2.2.2.2.2.2.2.2.2.2.1, v0.2.2.2.2.2.2.2.2.2.2.2.2.1, v0.2.2.2.2.2.2.2.2.2.2.2.2.2.1, v0.2.2.2.2.2.2.2.2.2.2.2.2.2.2.1, v0.2.2.2.2.2.2.2.2.2.2.2.2.2.2.2.1, v0.2.2.2.2.2.2.2.2.2.2.2.2.2.2.2.2) (-1) 0 fu b1 hb1) gX8_doubtful_X8_decodes rfl zh_X8_decodes ⟨rfl, rfl⟩ ⟨Nat.le_of_ble_eq_true rfl, Nat.le_of_ble_eq_true rfl⟩ rfl rfl rfl (Nat.le_of_ble_eq_true rfl) ⟨Nat.le_of_ble_eq_true rfl, Nat.le_of_ble_eq_true rfl⟩ [0, 1, 2, 3, 4, 5, 6, 7, 8] (by decide) rfl rfl dX8_doubtful_8) rfl rfl ?_
  refine zg_aload_n X dX8_doubtful_11 rfl 0 rfl ?_
  refine zg_iconst (v := 4) X dX8_doubtful_12 (by decide) ?_
  obtain ⟨b2, hb2, hf⟩ := pl_b hf
  refine zg_cP1 X (zg_runV X (zc_X8_withBit G q0 q1 q2 q3 q4 q5 q6 q7 q8 b1 4 fu b2 hb2) gX8_doubtful_X8_withBit rfl zh_X8_withBit ⟨rfl, rfl⟩ ⟨Nat.le_of_ble_eq_true rfl, Nat.le_of_ble_eq_true rfl⟩ rfl rfl rfl (Nat.le_of_ble_eq_true rfl) ⟨Nat.le_of_ble_eq_true rfl, Nat.le_of_ble_eq_true rfl⟩ [0, 1, 2, 3, 4, 5, 6, 7, 8] (by decide) rfl rfl dX8_doubtful_13) rfl ?_
  have hf := Option.some.inj hf
  subst hf
  exact zg_iret X hF rfl rfl () rfl rfl (Nat.le_of_ble_eq_true rfl) (Nat.le_of_ble_eq_true rfl) dX8_doubtful_16
theorem zh_X8_bells : yX8_bells.cls = RX8 ∧ yX8_bells.cls ≠ "java/lang/invoke/MethodHandle" ∧ yX8_bells.cls ≠ "java/lang/invoke/VarHandle" ∧ (parseMethodDescriptor yX8_bells.desc).map (fun d => d.parameters.length) = some 0 := by decide +kernel
set_option maxHeartbeats 8000000 in
set_option maxRecDepth 100000 in
theorem zc_X8_bells (G : zgG) (q0 q1 q2 q3 q4 q5 q6 q7 q8 : Nat) (v0 : zModel) (fu : Nat) (res : (Int32 × zModel)) (hf : zf_X8_bells fu v0 = some res) : zgCt G yX8_bells wsX8_bells ({ frames := 4, cells := 0, slots := 0, locals := 98 } : Room) [.ref q0] [(q0, .inr (7, [.ref q1, .ref q2, .int v0.2.2.1, .ref q3, .int v0.2.2.2.2.1, .int v0.2.2.2.2.2.1, .ref q4, .int v0.2.2.2.2.2.2.2.1, .ref q5, .ref q6, .ref q7, .int v0.2.2.2.2.2.2.2.2.2.2.2.1, .int v0.2.2.2.2.2.2.2.2.2.2.2.2.1, .int v0.2.2.2.2.2.2.2.2.2.2.2.2.2.1, .int v0.2.2.2.2.2.2.2.2.2.2.2.2.2.2.1, .ref q8, .int v0.2.2.2.2.2.2.2.2.2.2.2.2.2.2.2.2])), (q1, .inl (G.2.2.1, 946, .inl v0.1)), (q2, .inl (G.2.2.1, 5676, .inl v0.2.1)), (q3, .inl (G.2.2.1, 60, .inl v0.2.2.2.1)), (q4, .inl (G.2.2.1, 201, .inl v0.2.2.2.2.2.2.1)), (q5, .inl (G.2.2.1, 201, .inl v0.2.2.2.2.2.2.2.2.1)), (q6, .inl (G.2.2.1, 201, .inl v0.2.2.2.2.2.2.2.2.2.1)), (q7, .inl (G.2.2.1, 201, .inl v0.2.2.2.2.2.2.2.2.2.2.1)), (q8, .inl (G.2.2.1, 201, .inl v0.2.2.2.2.2.2.2.2.2.2.2.2.2.2.2.1))] (fun _ : Unit => some (.int res.1)) (fun _ => [(q0, .inr (7, [.ref q1, .ref q2, .int res.2.2.2.1, .ref q3, .int res.2.2.2.2.2.1, .int res.2.2.2.2.2.2.1, .ref q4, .int res.2.2.2.2.2.2.2.2.1, .ref q5, .ref q6, .ref q7, .int res.2.2.2.2.2.2.2.2.2.2.2.2.1, .int res.2.2.2.2.2.2.2.2.2.2.2.2.2.1, .int res.2.2.2.2.2.2.2.2.2.2.2.2.2.2.1, .int res.2.2.2.2.2.2.2.2.2.2.2.2.2.2.2.1, .ref q8, .int res.2.2.2.2.2.2.2.2.2.2.2.2.2.2.2.2.2])), (q1, .inl (G.2.2.1, 946, .inl res.2.1)), (q2, .inl (G.2.2.1, 5676, .inl res.2.2.1)), (q3, .inl (G.2.2.1, 60, .inl res.2.2.2.2.1)), (q4, .inl (G.2.2.1, 201, .inl res.2.2.2.2.2.2.2.1)), (q5, .inl (G.2.2.1, 201, .inl res.2.2.2.2.2.2.2.2.2.1)), (q6, .inl (G.2.2.1, 201, .inl res.2.2.2.2.2.2.2.2.2.2.1)), (q7, .inl (G.2.2.1, 201, .inl res.2.2.2.2.2.2.2.2.2.2.2.1)), (q8, .inl (G.2.2.1, 201, .inl res.2.2.2.2.2.2.2.2.2.2.2.2.2.2.2.2.1))]) 0 0 := by
  have hw0 : Cond.fieldLink RX8 38 "TelexReceiverModel" "thrown" "I" ∈ wsX8_bells := by decide +kernel
  have hw1 : Cond.fieldLink RX8 107 "TelexReceiverModel" "bells" "I" ∈ wsX8_bells := by decide +kernel
  have hiX8 : ∀ w ∈ u_ws RX8 TX8 17, w ∈ wsX8_bells := by decide +kernel
  refine zg_of (own := RX8) (cc := cX8_bells) (nL := 1) (ret := (some .int)) (by decide +kernel) rfl rfl (Nat.le_of_ble_eq_true rfl) (fun Z X hF => ?_)
  show zgGd G Z _ 0 0 1 _ 0 [(0, .ref q0)] []
  unfold zf_X8_bells at hf
  refine zg_aload_n X dX8_bells_0 rfl 0 rfl ?_
  refine zg_iconst (v := 0) X dX8_bells_1 (by decide) ?_
  refine zg_put (C := RX8) (T := TX8) (N := 17) (ty := .int) (ws' := [(q0, .inr (7, [.ref q1, .ref q2, .int v0.2.2.1, .ref q3, .int v0.2.2.2.2.1, .int 0, .ref q4, .int v0.2.2.2.2.2.2.2.1, .ref q5, .ref q6, .ref q7, .int v0.2.2.2.2.2.2.2.2.2.2.2.1, .int v0.2.2.2.2.2.2.2.2.2.2.2.2.1, .int v0.2.2.2.2.2.2.2.2.2.2.2.2.2.1, .int v0.2.2.2.2.2.2.2.2.2.2.2.2.2.2.1, .ref q8, .int v0.2.2.2.2.2.2.2.2.2.2.2.2.2.2.2.2])), (q1, .inl (G.2.2.1, 946, .inl v0.1)), (q2, .inl (G.2.2.1, 5676, .inl v0.2.1)), (q3, .inl (G.2.2.1, 60, .inl v0.2.2.2.1)), (q4, .inl (G.2.2.1, 201, .inl v0.2.2.2.2.2.2.1)), (q5, .inl (G.2.2.1, 201, .inl v0.2.2.2.2.2.2.2.2.1)), (q6, .inl (G.2.2.1, 201, .inl v0.2.2.2.2.2.2.2.2.2.1)), (q7, .inl (G.2.2.1, 201, .inl v0.2.2.2.2.2.2.2.2.2.2.1)), (q8, .inl (G.2.2.1, 201, .inl v0.2.2.2.2.2.2.2.2.2.2.2.2.2.2.2.1))]) X 0 5 hiX8 tyX8 tyX8_ok nmX8 rfl rfl (by decide) hw0 rfl (by decide +kernel) rfl rfl (Nat.le_of_ble_eq_true rfl) rfl dX8_bells_2 ?_
  refine zg_aload_n X dX8_bells_5 rfl 0 rfl ?_
  refine zg_iconst (v := (-1)) X dX8_bells_6 (by decide) ?_
  refine zg_iconst (v := 0) X dX8_bells_7 (by decide) ?_
  obtain ⟨b1, hb1, hf⟩ := pl_b hf
  refine zg_cU0 (ws2 := [(q0, .inr (7, [.ref q1, .ref q2, .int b1.2.2.1, .ref q3, .int b1.2.2.2.2.1, .int b1.2.2.2.2.2.1, .ref q4, .int b1.2.2.2.2.2.2.2.1, .ref q5, .ref q6, .ref q7, .int b1.2.2.2.2.2.2.2.2.2.2.2.1, .int b1.2.2.2.2.2.2.2.2.2.2.2.2.1, .int b1.2.2.2.2.2.2.2.2.2.2.2.2.2.1, .int b1.2.2.2.2.2.2.2.2.2.2.2.2.2.2.1, .ref q8, .int b1.2.2.2.2.2.2.2.2.2.2.2.2.2.2.2.2])), (q1, .inl (G.2.2.1, 946, .inl b1.1)), (q2, .inl (G.2.2.1, 5676, .inl b1.2.1)), (q3, .inl (G.2.2.1, 60, .inl b1.2.2.2.1)), (q4, .inl (G.2.2.1, 201, .inl b1.2.2.2.2.2.2.1)), (q5, .inl (G.2.2.1, 201, .inl b1.2.2.2.2.2.2.2.2.1)), (q6, .inl (G.2.2.1, 201, .inl b1.2.2.2.2.2.2.2.2.2.1)), (q7, .inl (G.2.2.1, 201, .inl b1.2.2.2.2.2.2.2.2.2.2.1)), (q8, .inl (G.2.2.1, 201, .inl b1.2.2.2.2.2.2.2.2.2.2.2.2.2.2.2.1))]) X (zg_runV X (zc_X8_decodes G q0 q1 q2 q3 q4 q5 q6 q7 q8 (v0.1, v0.2.1, v0.2.2.1, v0.2.2.2.1, v0.2.2.2.2.1, 0, v0.2.2.2.2.2.2.1, v0.2.2.2.2.2.2.2.1, v0.2.2.2.2.2.2.2.2.1, v0.2.2.2.2.2.2.2.2.2.1, v0.2.2.2.2.2.2.2.2.2.2.1, v0.2.2.2.2.2.2.2.2.2.2.2.1, v0.2.2.2.2.2.2.2.2.2.2.2.2.1, v0.2.2.2.2.2.2.2.2.2.2.2.2.2.1, v0.2.2.2.2.2.2.2.2.2.2.2.2.2.2.1, v0.2.2.2.2.2.2.2.2.2.2.2.2.2.2.2.1, v0.2.2.2.2.2.2.2.2.2.2.2.2.2.2.2.2) (-1) 0 fu b1 hb1) gX8_bells_X8_decodes rfl zh_X8_decodes ⟨rfl, rfl⟩ ⟨Nat.le_of_ble_eq_true rfl, Nat.le_of_ble_eq_true rfl⟩ rfl rfl rfl (Nat.le_of_ble_eq_true rfl) ⟨Nat.le_of_ble_eq_true rfl, Nat.le_of_ble_eq_true rfl⟩ [0, 1, 2, 3, 4, 5, 6, 7, 8] (by decide) rfl rfl dX8_bells_8) rfl rfl ?_
  refine zg_aload_n X dX8_bells_11 rfl 0 rfl ?_
  refine zg_get (C := RX8) (T := TX8) (N := 17) X 0 12 hiX8 rfl rfl (by decide) hw1 rfl dX8_bells_12 ?_
  have hf := Option.some.inj hf
  subst hf
  exact zg_iret X hF rfl rfl () rfl rfl (Nat.le_of_ble_eq_true rfl) (Nat.le_of_ble_eq_true rfl) dX8_bells_15
theorem zh_X8_questions : yX8_questions.cls = RX8 ∧ yX8_questions.cls ≠ "java/lang/invoke/MethodHandle" ∧ yX8_questions.cls ≠ "java/lang/invoke/VarHandle" ∧ (parseMethodDescriptor yX8_questions.desc).map (fun d => d.parameters.length) = some 0 := by decide +kernel
set_option maxHeartbeats 8000000 in
set_option maxRecDepth 100000 in
theorem zc_X8_questions (G : zgG) (q0 q1 q2 q3 q4 q5 q6 q7 q8 : Nat) (v0 : zModel) (fu : Nat) (res : (Int32 × zModel)) (hf : zf_X8_questions fu v0 = some res) : zgCt G yX8_questions wsX8_questions ({ frames := 4, cells := 0, slots := 0, locals := 98 } : Room) [.ref q0] [(q0, .inr (7, [.ref q1, .ref q2, .int v0.2.2.1, .ref q3, .int v0.2.2.2.2.1, .int v0.2.2.2.2.2.1, .ref q4, .int v0.2.2.2.2.2.2.2.1, .ref q5, .ref q6, .ref q7, .int v0.2.2.2.2.2.2.2.2.2.2.2.1, .int v0.2.2.2.2.2.2.2.2.2.2.2.2.1, .int v0.2.2.2.2.2.2.2.2.2.2.2.2.2.1, .int v0.2.2.2.2.2.2.2.2.2.2.2.2.2.2.1, .ref q8, .int v0.2.2.2.2.2.2.2.2.2.2.2.2.2.2.2.2])), (q1, .inl (G.2.2.1, 946, .inl v0.1)), (q2, .inl (G.2.2.1, 5676, .inl v0.2.1)), (q3, .inl (G.2.2.1, 60, .inl v0.2.2.2.1)), (q4, .inl (G.2.2.1, 201, .inl v0.2.2.2.2.2.2.1)), (q5, .inl (G.2.2.1, 201, .inl v0.2.2.2.2.2.2.2.2.1)), (q6, .inl (G.2.2.1, 201, .inl v0.2.2.2.2.2.2.2.2.2.1)), (q7, .inl (G.2.2.1, 201, .inl v0.2.2.2.2.2.2.2.2.2.2.1)), (q8, .inl (G.2.2.1, 201, .inl v0.2.2.2.2.2.2.2.2.2.2.2.2.2.2.2.1))] (fun _ : Unit => some (.int res.1)) (fun _ => [(q0, .inr (7, [.ref q1, .ref q2, .int res.2.2.2.1, .ref q3, .int res.2.2.2.2.2.1, .int res.2.2.2.2.2.2.1, .ref q4, .int res.2.2.2.2.2.2.2.2.1, .ref q5, .ref q6, .ref q7, .int res.2.2.2.2.2.2.2.2.2.2.2.2.1, .int res.2.2.2.2.2.2.2.2.2.2.2.2.2.1, .int res.2.2.2.2.2.2.2.2.2.2.2.2.2.2.1, .int res.2.2.2.2.2.2.2.2.2.2.2.2.2.2.2.1, .ref q8, .int res.2.2.2.2.2.2.2.2.2.2.2.2.2.2.2.2.2])), (q1, .inl (G.2.2.1, 946, .inl res.2.1)), (q2, .inl (G.2.2.1, 5676, .inl res.2.2.1)), (q3, .inl (G.2.2.1, 60, .inl res.2.2.2.2.1)), (q4, .inl (G.2.2.1, 201, .inl res.2.2.2.2.2.2.2.1)), (q5, .inl (G.2.2.1, 201, .inl res.2.2.2.2.2.2.2.2.2.1)), (q6, .inl (G.2.2.1, 201, .inl res.2.2.2.2.2.2.2.2.2.2.1)), (q7, .inl (G.2.2.1, 201, .inl res.2.2.2.2.2.2.2.2.2.2.2.1)), (q8, .inl (G.2.2.1, 201, .inl res.2.2.2.2.2.2.2.2.2.2.2.2.2.2.2.2.1))]) 0 0 := by
  have hw0 : Cond.fieldLink RX8 38 "TelexReceiverModel" "thrown" "I" ∈ wsX8_questions := by decide +kernel
  have hw1 : Cond.fieldLink RX8 110 "TelexReceiverModel" "questions" "I" ∈ wsX8_questions := by decide +kernel
  have hiX8 : ∀ w ∈ u_ws RX8 TX8 17, w ∈ wsX8_questions := by decide +kernel
  refine zg_of (own := RX8) (cc := cX8_questions) (nL := 1) (ret := (some .int)) (by decide +kernel) rfl rfl (Nat.le_of_ble_eq_true rfl) (fun Z X hF => ?_)
  show zgGd G Z _ 0 0 1 _ 0 [(0, .ref q0)] []
  unfold zf_X8_questions at hf
  refine zg_aload_n X dX8_questions_0 rfl 0 rfl ?_
  refine zg_iconst (v := 0) X dX8_questions_1 (by decide) ?_
  refine zg_put (C := RX8) (T := TX8) (N := 17) (ty := .int) (ws' := [(q0, .inr (7, [.ref q1, .ref q2, .int v0.2.2.1, .ref q3, .int v0.2.2.2.2.1, .int 0, .ref q4, .int v0.2.2.2.2.2.2.2.1, .ref q5, .ref q6, .ref q7, .int v0.2.2.2.2.2.2.2.2.2.2.2.1, .int v0.2.2.2.2.2.2.2.2.2.2.2.2.1, .int v0.2.2.2.2.2.2.2.2.2.2.2.2.2.1, .int v0.2.2.2.2.2.2.2.2.2.2.2.2.2.2.1, .ref q8, .int v0.2.2.2.2.2.2.2.2.2.2.2.2.2.2.2.2])), (q1, .inl (G.2.2.1, 946, .inl v0.1)), (q2, .inl (G.2.2.1, 5676, .inl v0.2.1)), (q3, .inl (G.2.2.1, 60, .inl v0.2.2.2.1)), (q4, .inl (G.2.2.1, 201, .inl v0.2.2.2.2.2.2.1)), (q5, .inl (G.2.2.1, 201, .inl v0.2.2.2.2.2.2.2.2.1)), (q6, .inl (G.2.2.1, 201, .inl v0.2.2.2.2.2.2.2.2.2.1)), (q7, .inl (G.2.2.1, 201, .inl v0.2.2.2.2.2.2.2.2.2.2.1)), (q8, .inl (G.2.2.1, 201, .inl v0.2.2.2.2.2.2.2.2.2.2.2.2.2.2.2.1))]) X 0 5 hiX8 tyX8 tyX8_ok nmX8 rfl rfl (by decide) hw0 rfl (by decide +kernel) rfl rfl (Nat.le_of_ble_eq_true rfl) rfl dX8_questions_2 ?_
  refine zg_aload_n X dX8_questions_5 rfl 0 rfl ?_
  refine zg_iconst (v := (-1)) X dX8_questions_6 (by decide) ?_
  refine zg_iconst (v := 0) X dX8_questions_7 (by decide) ?_
  obtain ⟨b1, hb1, hf⟩ := pl_b hf
  refine zg_cU0 (ws2 := [(q0, .inr (7, [.ref q1, .ref q2, .int b1.2.2.1, .ref q3, .int b1.2.2.2.2.1, .int b1.2.2.2.2.2.1, .ref q4, .int b1.2.2.2.2.2.2.2.1, .ref q5, .ref q6, .ref q7, .int b1.2.2.2.2.2.2.2.2.2.2.2.1, .int b1.2.2.2.2.2.2.2.2.2.2.2.2.1, .int b1.2.2.2.2.2.2.2.2.2.2.2.2.2.1, .int b1.2.2.2.2.2.2.2.2.2.2.2.2.2.2.1, .ref q8, .int b1.2.2.2.2.2.2.2.2.2.2.2.2.2.2.2.2])), (q1, .inl (G.2.2.1, 946, .inl b1.1)), (q2, .inl (G.2.2.1, 5676, .inl b1.2.1)), (q3, .inl (G.2.2.1, 60, .inl b1.2.2.2.1)), (q4, .inl (G.2.2.1, 201, .inl b1.2.2.2.2.2.2.1)), (q5, .inl (G.2.2.1, 201, .inl b1.2.2.2.2.2.2.2.2.1)), (q6, .inl (G.2.2.1, 201, .inl b1.2.2.2.2.2.2.2.2.2.1)), (q7, .inl (G.2.2.1, 201, .inl b1.2.2.2.2.2.2.2.2.2.2.1)), (q8, .inl (G.2.2.1, 201, .inl b1.2.2.2.2.2.2.2.2.2.2.2.2.2.2.2.1))]) X (zg_runV X (zc_X8_decodes G q0 q1 q2 q3 q4 q5 q6 q7 q8 (v0.1, v0.2.1, v0.2.2.1, v0.2.2.2.1, v0.2.2.2.2.1, 0, v0.2.2.2.2.2.2.1, v0.2.2.2.2.2.2.2.1, v0.2.2.2.2.2.2.2.2.1, v0.2.2.2.2.2.2.2.2.2.1, v0.2.2.2.2.2.2.2.2.2.2.1, v0.2.2.2.2.2.2.2.2.2.2.2.1, v0.2.2.2.2.2.2.2.2.2.2.2.2.1, v0.2.2.2.2.2.2.2.2.2.2.2.2.2.1, v0.2.2.2.2.2.2.2.2.2.2.2.2.2.2.1, v0.2.2.2.2.2.2.2.2.2.2.2.2.2.2.2.1, v0.2.2.2.2.2.2.2.2.2.2.2.2.2.2.2.2) (-1) 0 fu b1 hb1) gX8_questions_X8_decodes rfl zh_X8_decodes ⟨rfl, rfl⟩ ⟨Nat.le_of_ble_eq_true rfl, Nat.le_of_ble_eq_true rfl⟩ rfl rfl rfl (Nat.le_of_ble_eq_true rfl) ⟨Nat.le_of_ble_eq_true rfl, Nat.le_of_ble_eq_true rfl⟩ [0, 1, 2, 3, 4, 5, 6, 7, 8] (by decide) rfl rfl dX8_questions_8) rfl rfl ?_
  refine zg_aload_n X dX8_questions_11 rfl 0 rfl ?_
  refine zg_get (C := RX8) (T := TX8) (N := 17) X 0 13 hiX8 rfl rfl (by decide) hw1 rfl dX8_questions_12 ?_
  have hf := Option.some.inj hf
  subst hf
  exact zg_iret X hF rfl rfl () rfl rfl (Nat.le_of_ble_eq_true rfl) (Nat.le_of_ble_eq_true rfl) dX8_questions_15
