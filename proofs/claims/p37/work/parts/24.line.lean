theorem zh_X3_encode : yX3_encode.cls = RX3 ∧ yX3_encode.cls ≠ "java/lang/invoke/MethodHandle" ∧ yX3_encode.cls ≠ "java/lang/invoke/VarHandle" ∧ (parseMethodDescriptor yX3_encode.desc).map (fun d => d.parameters.length) = some 1 := by decide +kernel
set_option maxHeartbeats 8000000 in
set_option maxRecDepth 100000 in
theorem zc_X3_encode (G : zgG) (q0 q1 q2 q3 q4 q5 q6 q7 q8 q9 q10 q11 q12 : Nat) (N : Nat) (v0 : zLine) (v1 : zRow) (fu : Nat) (res : zLine) (hf : zf_X3_encode fu N v0 v1 = some res) : zgCt G yX3_encode wsX3_encode ({ frames := 6, cells := 0, slots := 0, locals := 132 } : Room) [.ref q0, .ref q11] [(q0, .inr (2, [.ref q1, .ref q3, .ref q5, .ref q7, .ref q9, .int v0.2.2.2.2.2.1, .int v0.2.2.2.2.2.2])), (q1, .inr (4, [.ref q2, .int v0.1.2])), (q2, .inl (G.2.2.1, 200, .inl v0.1.1)), (q3, .inr (4, [.ref q4, .int v0.2.1.2])), (q4, .inl (G.2.2.1, 200, .inl v0.2.1.1)), (q5, .inr (4, [.ref q6, .int v0.2.2.1.2])), (q6, .inl (G.2.2.1, 200, .inl v0.2.2.1.1)), (q7, .inr (4, [.ref q8, .int v0.2.2.2.1.2])), (q8, .inl (G.2.2.1, 200, .inl v0.2.2.2.1.1)), (q9, .inr (4, [.ref q10, .int v0.2.2.2.2.1.2])), (q10, .inl (G.2.2.1, 120, .inl v0.2.2.2.2.1.1)), (q11, .inr (4, [.ref q12, .int v1.2])), (q12, .inl (G.2.2.1, N, .inl v1.1))] (fun _ : Unit => some (.ref q9)) (fun _ => [(q0, .inr (2, [.ref q1, .ref q3, .ref q5, .ref q7, .ref q9, .int res.2.2.2.2.2.1, .int res.2.2.2.2.2.2])), (q1, .inr (4, [.ref q2, .int res.1.2])), (q2, .inl (G.2.2.1, 200, .inl res.1.1)), (q3, .inr (4, [.ref q4, .int res.2.1.2])), (q4, .inl (G.2.2.1, 200, .inl res.2.1.1)), (q5, .inr (4, [.ref q6, .int res.2.2.1.2])), (q6, .inl (G.2.2.1, 200, .inl res.2.2.1.1)), (q7, .inr (4, [.ref q8, .int res.2.2.2.1.2])), (q8, .inl (G.2.2.1, 200, .inl res.2.2.2.1.1)), (q9, .inr (4, [.ref q10, .int res.2.2.2.2.1.2])), (q10, .inl (G.2.2.1, 120, .inl res.2.2.2.2.1.1)), (q11, .inr (4, [.ref q12, .int v1.2])), (q12, .inl (G.2.2.1, N, .inl v1.1))]) 0 0 := by
  have hw0 : Cond.fieldLink RX3 29 "TelexReceiver$Line" "encoded" "LTelexReceiver$Row;" ∈ wsX3_encode := by decide +kernel
  have hw1 : Cond.fieldLink RX3 32 "TelexReceiver$Line" "shift" "I" ∈ wsX3_encode := by decide +kernel
  have hw2 : Cond.fieldLink RX3 62 "TelexReceiver$Line" "unshifts" "Z" ∈ wsX3_encode := by decide +kernel
  have hiX3 : ∀ w ∈ u_ws RX3 TX3 7, w ∈ wsX3_encode := by decide +kernel
  refine zg_of (own := RX3) (cc := cX3_encode) (nL := 7) (ret := (some (.object "TelexReceiver$Row"))) (by decide +kernel) rfl rfl (Nat.le_of_ble_eq_true rfl) (fun Z X hF => ?_)
  show zgGd G Z _ 0 0 7 _ 0 [(0, .ref q0), (1, .ref q11)] []
  have hL14 : ∀ (n : Nat) (y2 : Int32) (y3 : Int32) (w0 : zRow), zf_X3_encode_L14 fu N v0 v1 n y2 y3 w0 = some res → zgGd G Z ({ frames := 6, cells := 0, slots := 0, locals := 132 } : Room) 0 0 7 [(q0, .inr (2, [.ref q1, .ref q3, .ref q5, .ref q7, .ref q9, .int v0.2.2.2.2.2.1, .int v0.2.2.2.2.2.2])), (q1, .inr (4, [.ref q2, .int v0.1.2])), (q2, .inl (G.2.2.1, 200, .inl v0.1.1)), (q3, .inr (4, [.ref q4, .int v0.2.1.2])), (q4, .inl (G.2.2.1, 200, .inl v0.2.1.1)), (q5, .inr (4, [.ref q6, .int v0.2.2.1.2])), (q6, .inl (G.2.2.1, 200, .inl v0.2.2.1.1)), (q7, .inr (4, [.ref q8, .int v0.2.2.2.1.2])), (q8, .inl (G.2.2.1, 200, .inl v0.2.2.2.1.1)), (q9, .inr (4, [.ref q10, .int w0.2])), (q10, .inl (G.2.2.1, 120, .inl w0.1)), (q11, .inr (4, [.ref q12, .int v1.2])), (q12, .inl (G.2.2.1, N, .inl v1.1))] 14 [(0, .ref q0), (1, .ref q11), (2, .int y2), (3, .int y3)] [] := by
    intro n
    induction n with
    | zero =>
      intro y2 y3 w0 hf
      rw [zf_X3_encode_L14] at hf
      cases hf
    | succ n14 ih14 =>
      have hb71 : ∀ (y2 : Int32) (y3 : Int32) (y4 : Int32) (w0 : zRow), zf_X3_encode_b71 fu N v0 v1 (zf_X3_encode_L14 fu N v0 v1 n14) y2 y3 y4 w0 = some res → zgGd G Z ({ frames := 6, cells := 0, slots := 0, locals := 132 } : Room) 0 0 7 [(q0, .inr (2, [.ref q1, .ref q3, .ref q5, .ref q7, .ref q9, .int v0.2.2.2.2.2.1, .int v0.2.2.2.2.2.2])), (q1, .inr (4, [.ref q2, .int v0.1.2])), (q2, .inl (G.2.2.1, 200, .inl v0.1.1)), (q3, .inr (4, [.ref q4, .int v0.2.1.2])), (q4, .inl (G.2.2.1, 200, .inl v0.2.1.1)), (q5, .inr (4, [.ref q6, .int v0.2.2.1.2])), (q6, .inl (G.2.2.1, 200, .inl v0.2.2.1.1)), (q7, .inr (4, [.ref q8, .int v0.2.2.2.1.2])), (q8, .inl (G.2.2.1, 200, .inl v0.2.2.2.1.1)), (q9, .inr (4, [.ref q10, .int w0.2])), (q10, .inl (G.2.2.1, 120, .inl w0.1)), (q11, .inr (4, [.ref q12, .int v1.2])), (q12, .inl (G.2.2.1, N, .inl v1.1))] 71 [(0, .ref q0), (1, .ref q11), (2, .int y2), (3, .int y3), (4, .int y4)] [] := by
        intro y2 y3 y4 w0 hf
        unfold zf_X3_encode_b71 at hf
        refine zg_iload X dX3_encode_71 4 rfl ?_
        obtain ⟨b9, hb9, hf⟩ := pl_b hf
        refine zg_cP1 X (zg_runS X (zc_X0_codeOf G y4 fu b9 hb9) gX3_encode_X0_codeOf rfl zh_X0_codeOf.2 ⟨rfl, rfl⟩ ⟨Nat.le_of_ble_eq_true rfl, Nat.le_of_ble_eq_true rfl⟩ rfl (Nat.le_of_ble_eq_true rfl) ⟨Nat.le_of_ble_eq_true rfl, Nat.le_of_ble_eq_true rfl⟩ [] (by decide) rfl rfl dX3_encode_73) rfl ?_
        refine zg_istore (L' := [(6, .int b9), (0, .ref q0), (1, .ref q11), (2, .int y2), (3, .int y3), (4, .int y4)]) X dX3_encode_76 (by decide) rfl ?_
        refine zg_aload_n X dX3_encode_78 rfl 1 rfl ?_
        refine zg_get (C := RX3) (T := TX3) (N := 7) X 0 4 hiX3 rfl rfl (by decide) hw0 rfl dX3_encode_79 ?_
        refine zg_iload X dX3_encode_82 0 rfl ?_
        obtain ⟨b10, hb10, hf⟩ := pl_b hf
        refine zg_cU0 (ws2 := [(q0, .inr (2, [.ref q1, .ref q3, .ref q5, .ref q7, .ref q9, .int v0.2.2.2.2.2.1, .int v0.2.2.2.2.2.2])), (q1, .inr (4, [.ref q2, .int v0.1.2])), (q2, .inl (G.2.2.1, 200, .inl v0.1.1)), (q3, .inr (4, [.ref q4, .int v0.2.1.2])), (q4, .inl (G.2.2.1, 200, .inl v0.2.1.1)), (q5, .inr (4, [.ref q6, .int v0.2.2.1.2])), (q6, .inl (G.2.2.1, 200, .inl v0.2.2.1.1)), (q7, .inr (4, [.ref q8, .int v0.2.2.2.1.2])), (q8, .inl (G.2.2.1, 200, .inl v0.2.2.2.1.1)), (q9, .inr (4, [.ref q10, .int b10.2])), (q10, .inl (G.2.2.1, 120, .inl b10.1)), (q11, .inr (4, [.ref q12, .int v1.2])), (q12, .inl (G.2.2.1, N, .inl v1.1))]) X (zg_runV X (zc_X5_add G q9 q10 120 w0 b9 fu b10 hb10) gX3_encode_X5_add rfl zh_X5_add ⟨rfl, rfl⟩ ⟨Nat.le_of_ble_eq_true rfl, Nat.le_of_ble_eq_true rfl⟩ rfl rfl rfl (Nat.le_of_ble_eq_true rfl) ⟨Nat.le_of_ble_eq_true rfl, Nat.le_of_ble_eq_true rfl⟩ [9, 10] (by decide) rfl rfl dX3_encode_84) rfl rfl ?_
        refine zg_iload X dX3_encode_87 0 rfl ?_
        refine zg_iload_n X dX3_encode_89 rfl 3 rfl ?_
        refine zg_aload_n X dX3_encode_90 rfl 1 rfl ?_
        refine zg_get (C := RX3) (T := TX3) (N := 7) X 0 6 hiX3 rfl rfl (by decide) hw2 rfl dX3_encode_91 ?_
        obtain ⟨b11, hb11, hf⟩ := pl_b hf
        refine zg_cP1 X (zg_runS X (zc_X0_shiftBehind G b9 y2 v0.2.2.2.2.2.2 fu b11 hb11) gX3_encode_X0_shiftBehind rfl zh_X0_shiftBehind.2 ⟨rfl, rfl⟩ ⟨Nat.le_of_ble_eq_true rfl, Nat.le_of_ble_eq_true rfl⟩ rfl (Nat.le_of_ble_eq_true rfl) ⟨Nat.le_of_ble_eq_true rfl, Nat.le_of_ble_eq_true rfl⟩ [] (by decide) rfl rfl dX3_encode_94) rfl ?_
        refine zg_istore_n (L' := [(2, .int b11), (6, .int b9), (0, .ref q0), (1, .ref q11), (3, .int y3), (4, .int y4)]) X dX3_encode_97 rfl (by decide) rfl ?_
        obtain ⟨x12, ex12, hf⟩ := pl_l hf
        refine zg_iinc (v := x12) (L' := [(3, .int x12), (2, .int b11), (6, .int b9), (0, .ref q0), (1, .ref q11), (4, .int y4)]) X dX3_encode_98 (j := 4) rfl (by rw [ex12]; rfl) (by decide) rfl ?_
        refine zg_goto (tgt := 14) X dX3_encode_101 (by decide) ?_
        refine zg_loc [3, 4, 1, 0] rfl ?_
        exact ih14 b11 x12 b10 hf
      have hb65 : ∀ (y3 : Int32) (y4 : Int32) (y5 : Int32) (z1 : Int32) (w0 : zRow), zf_X3_encode_b65 fu N v0 v1 (zf_X3_encode_L14 fu N v0 v1 n14) y3 y4 y5 z1 w0 = some res → zgGd G Z ({ frames := 6, cells := 0, slots := 0, locals := 132 } : Room) 0 0 7 [(q0, .inr (2, [.ref q1, .ref q3, .ref q5, .ref q7, .ref q9, .int v0.2.2.2.2.2.1, .int v0.2.2.2.2.2.2])), (q1, .inr (4, [.ref q2, .int v0.1.2])), (q2, .inl (G.2.2.1, 200, .inl v0.1.1)), (q3, .inr (4, [.ref q4, .int v0.2.1.2])), (q4, .inl (G.2.2.1, 200, .inl v0.2.1.1)), (q5, .inr (4, [.ref q6, .int v0.2.2.1.2])), (q6, .inl (G.2.2.1, 200, .inl v0.2.2.1.1)), (q7, .inr (4, [.ref q8, .int v0.2.2.2.1.2])), (q8, .inl (G.2.2.1, 200, .inl v0.2.2.2.1.1)), (q9, .inr (4, [.ref q10, .int w0.2])), (q10, .inl (G.2.2.1, 120, .inl w0.1)), (q11, .inr (4, [.ref q12, .int v1.2])), (q12, .inl (G.2.2.1, N, .inl v1.1))] 65 [(0, .ref q0), (1, .ref q11), (3, .int y3), (4, .int y4), (5, .int y5)] [.int z1, .ref q9] := by
        intro y3 y4 y5 z1 w0 hf
        unfold zf_X3_encode_b65 at hf
        obtain ⟨b13, hb13, hf⟩ := pl_b hf
        refine zg_cU0 (ws2 := [(q0, .inr (2, [.ref q1, .ref q3, .ref q5, .ref q7, .ref q9, .int v0.2.2.2.2.2.1, .int v0.2.2.2.2.2.2])), (q1, .inr (4, [.ref q2, .int v0.1.2])), (q2, .inl (G.2.2.1, 200, .inl v0.1.1)), (q3, .inr (4, [.ref q4, .int v0.2.1.2])), (q4, .inl (G.2.2.1, 200, .inl v0.2.1.1)), (q5, .inr (4, [.ref q6, .int v0.2.2.1.2])), (q6, .inl (G.2.2.1, 200, .inl v0.2.2.1.1)), (q7, .inr (4, [.ref q8, .int v0.2.2.2.1.2])), (q8, .inl (G.2.2.1, 200, .inl v0.2.2.2.1.1)), (q9, .inr (4, [.ref q10, .int b13.2])), (q10, .inl (G.2.2.1, 120, .inl b13.1)), (q11, .inr (4, [.ref q12, .int v1.2])), (q12, .inl (G.2.2.1, N, .inl v1.1))]) X (zg_runV X (zc_X5_add G q9 q10 120 w0 z1 fu b13 hb13) gX3_encode_X5_add rfl zh_X5_add ⟨rfl, rfl⟩ ⟨Nat.le_of_ble_eq_true rfl, Nat.le_of_ble_eq_true rfl⟩ rfl rfl rfl (Nat.le_of_ble_eq_true rfl) ⟨Nat.le_of_ble_eq_true rfl, Nat.le_of_ble_eq_true rfl⟩ [9, 10] (by decide) rfl rfl dX3_encode_65) rfl rfl ?_
        refine zg_iload X dX3_encode_68 4 rfl ?_
        refine zg_istore_n (L' := [(2, .int y5), (0, .ref q0), (1, .ref q11), (3, .int y3), (4, .int y4), (5, .int y5)]) X dX3_encode_70 rfl (by decide) rfl ?_
        refine zg_loc [1, 2, 0, 3, 4] rfl ?_
        exact hb71 y5 y3 y4 b13 hf
      intro y2 y3 w0 hf
      rw [zf_X3_encode_L14] at hf
      refine zg_iload_n X dX3_encode_14 rfl 3 rfl ?_
      refine zg_aload_n X dX3_encode_15 rfl 1 rfl ?_
      obtain ⟨b2, hb2, hf⟩ := pl_b hf
      refine zg_cP1 X (zg_runV X (zc_X5_size G q11 q12 N v1 fu b2 hb2) gX3_encode_X5_size rfl zh_X5_size ⟨rfl, rfl⟩ ⟨Nat.le_of_ble_eq_true rfl, Nat.le_of_ble_eq_true rfl⟩ rfl rfl rfl (Nat.le_of_ble_eq_true rfl) ⟨Nat.le_of_ble_eq_true rfl, Nat.le_of_ble_eq_true rfl⟩ [11, 12] (by decide) rfl rfl dX3_encode_16) rfl ?_
      refine zg_icmp_ge (tgt := 104) X dX3_encode_19 (by decide) (fun c3 => ?_) (fun c3 => ?_)
      · have hf := pl_t c3 hf
        refine zg_aload_n X dX3_encode_104 rfl 0 rfl ?_
        refine zg_get (C := RX3) (T := TX3) (N := 7) X 0 4 hiX3 rfl rfl (by decide) hw0 rfl dX3_encode_105 ?_
        have hf := Option.some.inj hf
        subst hf
        exact zg_aret X hF rfl (Or.inr ⟨_, rfl⟩) () rfl rfl (Nat.le_of_ble_eq_true rfl) (Nat.le_of_ble_eq_true rfl) dX3_encode_108
      · have hf := pl_f c3 hf
        refine zg_aload_n X dX3_encode_22 rfl 1 rfl ?_
        refine zg_iload_n X dX3_encode_23 rfl 3 rfl ?_
        obtain ⟨b4, hb4, hf⟩ := pl_b hf
        refine zg_cP1 X (zg_runV X (zc_X5_at G q11 q12 N v1 y3 fu b4 hb4) gX3_encode_X5_at rfl zh_X5_at ⟨rfl, rfl⟩ ⟨Nat.le_of_ble_eq_true rfl, Nat.le_of_ble_eq_true rfl⟩ rfl rfl rfl (Nat.le_of_ble_eq_true rfl) ⟨Nat.le_of_ble_eq_true rfl, Nat.le_of_ble_eq_true rfl⟩ [11, 12] (by decide) rfl rfl dX3_encode_24) rfl ?_
        refine zg_istore (L' := [(4, .int b4), (0, .ref q0), (1, .ref q11), (2, .int y2), (3, .int y3)]) X dX3_encode_27 (by decide) rfl ?_
        refine zg_iload X dX3_encode_29 0 rfl ?_
        obtain ⟨b5, hb5, hf⟩ := pl_b hf
        refine zg_cP1 X (zg_runS X (zc_X0_shiftFor G b4 fu b5 hb5) gX3_encode_X0_shiftFor rfl zh_X0_shiftFor.2 ⟨rfl, rfl⟩ ⟨Nat.le_of_ble_eq_true rfl, Nat.le_of_ble_eq_true rfl⟩ rfl (Nat.le_of_ble_eq_true rfl) ⟨Nat.le_of_ble_eq_true rfl, Nat.le_of_ble_eq_true rfl⟩ [] (by decide) rfl rfl dX3_encode_31) rfl ?_
        refine zg_istore (L' := [(5, .int b5), (4, .int b4), (0, .ref q0), (1, .ref q11), (2, .int y2), (3, .int y3)]) X dX3_encode_34 (by decide) rfl ?_
        refine zg_iload X dX3_encode_36 0 rfl ?_
        refine zg_iconst (v := (-1)) X dX3_encode_38 (by decide) ?_
        refine zg_icmp_eq (tgt := 71) X dX3_encode_39 (by decide) (fun c6 => ?_) (fun c6 => ?_)
        · have hf := pl_t c6 hf
          refine zg_loc [2, 3, 4, 5, 1] rfl ?_
          exact hb71 y2 y3 b4 w0 hf
        · have hf := pl_f c6 hf
          refine zg_iload X dX3_encode_42 0 rfl ?_
          refine zg_iload_n X dX3_encode_44 rfl 4 rfl ?_
          refine zg_icmp_eq (tgt := 71) X dX3_encode_45 (by decide) (fun c7 => ?_) (fun c7 => ?_)
          · have hf := pl_t c7 hf
            refine zg_loc [2, 3, 4, 5, 1] rfl ?_
            exact hb71 y2 y3 b4 w0 hf
          · have hf := pl_f c7 hf
            refine zg_aload_n X dX3_encode_48 rfl 2 rfl ?_
            refine zg_get (C := RX3) (T := TX3) (N := 7) X 0 4 hiX3 rfl rfl (by decide) hw0 rfl dX3_encode_49 ?_
            refine zg_iload X dX3_encode_52 0 rfl ?_
            refine zg_iconst (v := 1) X dX3_encode_54 (by decide) ?_
            refine zg_icmp_ne (tgt := 63) X dX3_encode_55 (by decide) (fun c8 => ?_) (fun c8 => ?_)
            · have hf := pl_f c8 hf
              refine zg_bipush (v := 31) X dX3_encode_63 (by decide) ?_
              refine zg_loc [2, 3, 5, 1, 0] rfl ?_
              exact hb65 y3 b4 b5 31 w0 hf
            · have hf := pl_t c8 hf
              refine zg_bipush (v := 30) X dX3_encode_58 (by decide) ?_
              refine zg_goto (tgt := 65) X dX3_encode_60 (by decide) ?_
              refine zg_loc [2, 3, 5, 1, 0] rfl ?_
              exact hb65 y3 b4 b5 30 w0 hf
  unfold zf_X3_encode at hf
  refine zg_aload_n X dX3_encode_0 rfl 0 rfl ?_
  refine zg_get (C := RX3) (T := TX3) (N := 7) X 0 4 hiX3 rfl rfl (by decide) hw0 rfl dX3_encode_1 ?_
  obtain ⟨b1, hb1, hf⟩ := pl_b hf
  refine zg_cU0 (ws2 := [(q0, .inr (2, [.ref q1, .ref q3, .ref q5, .ref q7, .ref q9, .int v0.2.2.2.2.2.1, .int v0.2.2.2.2.2.2])), (q1, .inr (4, [.ref q2, .int v0.1.2])), (q2, .inl (G.2.2.1, 200, .inl v0.1.1)), (q3, .inr (4, [.ref q4, .int v0.2.1.2])), (q4, .inl (G.2.2.1, 200, .inl v0.2.1.1)), (q5, .inr (4, [.ref q6, .int v0.2.2.1.2])), (q6, .inl (G.2.2.1, 200, .inl v0.2.2.1.1)), (q7, .inr (4, [.ref q8, .int v0.2.2.2.1.2])), (q8, .inl (G.2.2.1, 200, .inl v0.2.2.2.1.1)), (q9, .inr (4, [.ref q10, .int b1.2])), (q10, .inl (G.2.2.1, 120, .inl b1.1)), (q11, .inr (4, [.ref q12, .int v1.2])), (q12, .inl (G.2.2.1, N, .inl v1.1))]) X (zg_runV X (zc_X5_clear G q9 q10 120 v0.2.2.2.2.1 fu b1 hb1) gX3_encode_X5_clear rfl zh_X5_clear ⟨rfl, rfl⟩ ⟨Nat.le_of_ble_eq_true rfl, Nat.le_of_ble_eq_true rfl⟩ rfl rfl rfl (Nat.le_of_ble_eq_true rfl) ⟨Nat.le_of_ble_eq_true rfl, Nat.le_of_ble_eq_true rfl⟩ [9, 10] (by decide) rfl rfl dX3_encode_4) rfl rfl ?_
  refine zg_aload_n X dX3_encode_7 rfl 0 rfl ?_
  refine zg_get (C := RX3) (T := TX3) (N := 7) X 0 5 hiX3 rfl rfl (by decide) hw1 rfl dX3_encode_8 ?_
  refine zg_istore_n (L' := [(2, .int v0.2.2.2.2.2.1), (0, .ref q0), (1, .ref q11)]) X dX3_encode_11 rfl (by decide) rfl ?_
  refine zg_iconst (v := 0) X dX3_encode_12 (by decide) ?_
  refine zg_istore_n (L' := [(3, .int 0), (2, .int v0.2.2.2.2.2.1), (0, .ref q0), (1, .ref q11)]) X dX3_encode_13 rfl (by decide) rfl ?_
  refine zg_loc [2, 3, 1, 0] rfl ?_
  exact hL14 fu v0.2.2.2.2.2.1 0 b1 hf
theorem zh_X3_transmitCode : yX3_transmitCode.cls = RX3 ∧ yX3_transmitCode.cls ≠ "java/lang/invoke/MethodHandle" ∧ yX3_transmitCode.cls ≠ "java/lang/invoke/VarHandle" ∧ (parseMethodDescriptor yX3_transmitCode.desc).map (fun d => d.parameters.length) = some 1 := by decide +kernel
set_option maxHeartbeats 8000000 in
set_option maxRecDepth 100000 in
theorem zc_X3_transmitCode (G : zgG) (q0 q1 q2 q3 q4 q5 q6 q7 q8 q9 q10 : Nat) (v0 : zLine) (a1 : Int32) (fu : Nat) (res : zLine) (hf : zf_X3_transmitCode fu v0 a1 = some res) : zgCt G yX3_transmitCode wsX3_transmitCode ({ frames := 1, cells := 0, slots := 0, locals := 22 } : Room) [.ref q0, .int a1] [(q0, .inr (2, [.ref q1, .ref q3, .ref q5, .ref q7, .ref q9, .int v0.2.2.2.2.2.1, .int v0.2.2.2.2.2.2])), (q1, .inr (4, [.ref q2, .int v0.1.2])), (q2, .inl (G.2.2.1, 200, .inl v0.1.1)), (q3, .inr (4, [.ref q4, .int v0.2.1.2])), (q4, .inl (G.2.2.1, 200, .inl v0.2.1.1)), (q5, .inr (4, [.ref q6, .int v0.2.2.1.2])), (q6, .inl (G.2.2.1, 200, .inl v0.2.2.1.1)), (q7, .inr (4, [.ref q8, .int v0.2.2.2.1.2])), (q8, .inl (G.2.2.1, 200, .inl v0.2.2.2.1.1)), (q9, .inr (4, [.ref q10, .int v0.2.2.2.2.1.2])), (q10, .inl (G.2.2.1, 120, .inl v0.2.2.2.2.1.1))] (fun _ : Unit => none) (fun _ => [(q0, .inr (2, [.ref q1, .ref q3, .ref q5, .ref q7, .ref q9, .int res.2.2.2.2.2.1, .int res.2.2.2.2.2.2])), (q1, .inr (4, [.ref q2, .int res.1.2])), (q2, .inl (G.2.2.1, 200, .inl res.1.1)), (q3, .inr (4, [.ref q4, .int res.2.1.2])), (q4, .inl (G.2.2.1, 200, .inl res.2.1.1)), (q5, .inr (4, [.ref q6, .int res.2.2.1.2])), (q6, .inl (G.2.2.1, 200, .inl res.2.2.1.1)), (q7, .inr (4, [.ref q8, .int res.2.2.2.1.2])), (q8, .inl (G.2.2.1, 200, .inl res.2.2.2.1.1)), (q9, .inr (4, [.ref q10, .int res.2.2.2.2.1.2])), (q10, .inl (G.2.2.1, 120, .inl res.2.2.2.2.1.1))]) 0 0 := by
  have hw0 : Cond.fieldLink RX3 26 "TelexReceiver$Line" "faultRow" "LTelexReceiver$Row;" ∈ wsX3_transmitCode := by decide +kernel
  have hw1 : Cond.fieldLink RX3 20 "TelexReceiver$Line" "sentRow" "LTelexReceiver$Row;" ∈ wsX3_transmitCode := by decide +kernel
  have hw2 : Cond.fieldLink RX3 32 "TelexReceiver$Line" "shift" "I" ∈ wsX3_transmitCode := by decide +kernel
  have hw3 : Cond.fieldLink RX3 62 "TelexReceiver$Line" "unshifts" "Z" ∈ wsX3_transmitCode := by decide +kernel
  have hw4 : Cond.fieldLink RX3 23 "TelexReceiver$Line" "receivedRow" "LTelexReceiver$Row;" ∈ wsX3_transmitCode := by decide +kernel
  have hiX3 : ∀ w ∈ u_ws RX3 TX3 7, w ∈ wsX3_transmitCode := by decide +kernel
  refine zg_of (own := RX3) (cc := cX3_transmitCode) (nL := 3) (ret := none) (by decide +kernel) rfl rfl (Nat.le_of_ble_eq_true rfl) (fun Z X hF => ?_)
  show zgGd G Z _ 0 0 3 _ 0 [(0, .ref q0), (1, .int a1)] []
  unfold zf_X3_transmitCode at hf
  refine zg_aload_n X dX3_transmitCode_0 rfl 0 rfl ?_
  refine zg_get (C := RX3) (T := TX3) (N := 7) X 0 3 hiX3 rfl rfl (by decide) hw0 rfl dX3_transmitCode_1 ?_
  refine zg_aload_n X dX3_transmitCode_4 rfl 0 rfl ?_
  refine zg_get (C := RX3) (T := TX3) (N := 7) X 0 1 hiX3 rfl rfl (by decide) hw1 rfl dX3_transmitCode_5 ?_
  obtain ⟨b1, hb1, hf⟩ := pl_b hf
  refine zg_cP1 X (zg_runV X (zc_X5_size G q3 q4 200 v0.2.1 fu b1 hb1) gX3_transmitCode_X5_size rfl zh_X5_size ⟨rfl, rfl⟩ ⟨Nat.le_of_ble_eq_true rfl, Nat.le_of_ble_eq_true rfl⟩ rfl rfl rfl (Nat.le_of_ble_eq_true rfl) ⟨Nat.le_of_ble_eq_true rfl, Nat.le_of_ble_eq_true rfl⟩ [3, 4] (by decide) rfl rfl dX3_transmitCode_8) rfl ?_
  obtain ⟨b2, hb2, hf⟩ := pl_b hf
  refine zg_cP1 X (zg_runV X (zc_X5_at G q7 q8 200 v0.2.2.2.1 b1 fu b2 hb2) gX3_transmitCode_X5_at rfl zh_X5_at ⟨rfl, rfl⟩ ⟨Nat.le_of_ble_eq_true rfl, Nat.le_of_ble_eq_true rfl⟩ rfl rfl rfl (Nat.le_of_ble_eq_true rfl) ⟨Nat.le_of_ble_eq_true rfl, Nat.le_of_ble_eq_true rfl⟩ [7, 8] (by decide) rfl rfl dX3_transmitCode_11) rfl ?_
  refine zg_istore_n (L' := [(2, .int b2), (0, .ref q0), (1, .int a1)]) X dX3_transmitCode_14 rfl (by decide) rfl ?_
  refine zg_aload_n X dX3_transmitCode_15 rfl 1 rfl ?_
  refine zg_get (C := RX3) (T := TX3) (N := 7) X 0 1 hiX3 rfl rfl (by decide) hw1 rfl dX3_transmitCode_16 ?_
  refine zg_iload_n X dX3_transmitCode_19 rfl 2 rfl ?_
  obtain ⟨b3, hb3, hf⟩ := pl_b hf
  refine zg_cU0 (ws2 := [(q0, .inr (2, [.ref q1, .ref q3, .ref q5, .ref q7, .ref q9, .int v0.2.2.2.2.2.1, .int v0.2.2.2.2.2.2])), (q1, .inr (4, [.ref q2, .int v0.1.2])), (q2, .inl (G.2.2.1, 200, .inl v0.1.1)), (q3, .inr (4, [.ref q4, .int b3.2])), (q4, .inl (G.2.2.1, 200, .inl b3.1)), (q5, .inr (4, [.ref q6, .int v0.2.2.1.2])), (q6, .inl (G.2.2.1, 200, .inl v0.2.2.1.1)), (q7, .inr (4, [.ref q8, .int v0.2.2.2.1.2])), (q8, .inl (G.2.2.1, 200, .inl v0.2.2.2.1.1)), (q9, .inr (4, [.ref q10, .int v0.2.2.2.2.1.2])), (q10, .inl (G.2.2.1, 120, .inl v0.2.2.2.2.1.1))]) X (zg_runV X (zc_X5_add G q3 q4 200 v0.2.1 a1 fu b3 hb3) gX3_transmitCode_X5_add rfl zh_X5_add ⟨rfl, rfl⟩ ⟨Nat.le_of_ble_eq_true rfl, Nat.le_of_ble_eq_true rfl⟩ rfl rfl rfl (Nat.le_of_ble_eq_true rfl) ⟨Nat.le_of_ble_eq_true rfl, Nat.le_of_ble_eq_true rfl⟩ [3, 4] (by decide) rfl rfl dX3_transmitCode_20) rfl rfl ?_
  refine zg_aload_n X dX3_transmitCode_23 rfl 1 rfl ?_
  refine zg_iload_n X dX3_transmitCode_24 rfl 2 rfl ?_
  refine zg_aload_n X dX3_transmitCode_25 rfl 1 rfl ?_
  refine zg_get (C := RX3) (T := TX3) (N := 7) X 0 5 hiX3 rfl rfl (by decide) hw2 rfl dX3_transmitCode_26 ?_
  refine zg_aload_n X dX3_transmitCode_29 rfl 1 rfl ?_
  refine zg_get (C := RX3) (T := TX3) (N := 7) X 0 6 hiX3 rfl rfl (by decide) hw3 rfl dX3_transmitCode_30 ?_
  obtain ⟨b4, hb4, hf⟩ := pl_b hf
  refine zg_cP1 X (zg_runS X (zc_X0_shiftBehind G a1 v0.2.2.2.2.2.1 v0.2.2.2.2.2.2 fu b4 hb4) gX3_transmitCode_X0_shiftBehind rfl zh_X0_shiftBehind.2 ⟨rfl, rfl⟩ ⟨Nat.le_of_ble_eq_true rfl, Nat.le_of_ble_eq_true rfl⟩ rfl (Nat.le_of_ble_eq_true rfl) ⟨Nat.le_of_ble_eq_true rfl, Nat.le_of_ble_eq_true rfl⟩ [] (by decide) rfl rfl dX3_transmitCode_33) rfl ?_
  refine zg_put (C := RX3) (T := TX3) (N := 7) (ty := .int) (ws' := [(q0, .inr (2, [.ref q1, .ref q3, .ref q5, .ref q7, .ref q9, .int b4, .int v0.2.2.2.2.2.2])), (q1, .inr (4, [.ref q2, .int v0.1.2])), (q2, .inl (G.2.2.1, 200, .inl v0.1.1)), (q3, .inr (4, [.ref q4, .int b3.2])), (q4, .inl (G.2.2.1, 200, .inl b3.1)), (q5, .inr (4, [.ref q6, .int v0.2.2.1.2])), (q6, .inl (G.2.2.1, 200, .inl v0.2.2.1.1)), (q7, .inr (4, [.ref q8, .int v0.2.2.2.1.2])), (q8, .inl (G.2.2.1, 200, .inl v0.2.2.2.1.1)), (q9, .inr (4, [.ref q10, .int v0.2.2.2.2.1.2])), (q10, .inl (G.2.2.1, 120, .inl v0.2.2.2.2.1.1))]) X 0 5 hiX3 tyX3 tyX3_ok nmX3 rfl rfl (by decide) hw2 rfl (by decide +kernel) rfl rfl (Nat.le_of_ble_eq_true rfl) rfl dX3_transmitCode_36 ?_
  refine zg_iload_n X dX3_transmitCode_39 rfl 0 rfl ?_
  refine zg_iconst (v := (-1)) X dX3_transmitCode_40 (by decide) ?_
  refine zg_icmp_ne (tgt := 55) X dX3_transmitCode_41 (by decide) (fun c5 => ?_) (fun c5 => ?_)
  · have hf := pl_f c5 hf
    refine zg_iload_n X dX3_transmitCode_55 rfl 0 rfl ?_
    refine zg_if_eq (tgt := 73) X dX3_transmitCode_56 (by decide) (fun c6 => ?_) (fun c6 => ?_)
    · have hf := pl_t c6 hf
      have hf := Option.some.inj hf
      subst hf
      exact zg_vret X hF () rfl rfl (Nat.le_of_ble_eq_true rfl) (Nat.le_of_ble_eq_true rfl) dX3_transmitCode_73
    · have hf := pl_f c6 hf
      refine zg_aload_n X dX3_transmitCode_59 rfl 1 rfl ?_
      refine zg_get (C := RX3) (T := TX3) (N := 7) X 0 2 hiX3 rfl rfl (by decide) hw4 rfl dX3_transmitCode_60 ?_
      refine zg_iload_n X dX3_transmitCode_63 rfl 2 rfl ?_
      refine zg_iconst (v := 1) X dX3_transmitCode_64 (by decide) ?_
      refine zg_iload_n X dX3_transmitCode_65 rfl 0 rfl ?_
      refine zg_iconst (v := 1) X dX3_transmitCode_66 (by decide) ?_
      refine zg_isub X dX3_transmitCode_67 ?_
      refine zg_ishl X dX3_transmitCode_68 ?_
      refine zg_ixor X dX3_transmitCode_69 ?_
      obtain ⟨b7, hb7, hf⟩ := pl_b hf
      refine zg_cU0 (ws2 := [(q0, .inr (2, [.ref q1, .ref q3, .ref q5, .ref q7, .ref q9, .int b4, .int v0.2.2.2.2.2.2])), (q1, .inr (4, [.ref q2, .int v0.1.2])), (q2, .inl (G.2.2.1, 200, .inl v0.1.1)), (q3, .inr (4, [.ref q4, .int b3.2])), (q4, .inl (G.2.2.1, 200, .inl b3.1)), (q5, .inr (4, [.ref q6, .int b7.2])), (q6, .inl (G.2.2.1, 200, .inl b7.1)), (q7, .inr (4, [.ref q8, .int v0.2.2.2.1.2])), (q8, .inl (G.2.2.1, 200, .inl v0.2.2.2.1.1)), (q9, .inr (4, [.ref q10, .int v0.2.2.2.2.1.2])), (q10, .inl (G.2.2.1, 120, .inl v0.2.2.2.2.1.1))]) X (zg_runV X (zc_X5_add G q5 q6 200 v0.2.2.1 (a1 ^^^ ((1 : Int32) <<< ((b2 - (1 : Int32)) &&& 31))) fu b7 hb7) gX3_transmitCode_X5_add rfl zh_X5_add ⟨rfl, rfl⟩ ⟨Nat.le_of_ble_eq_true rfl, Nat.le_of_ble_eq_true rfl⟩ rfl rfl rfl (Nat.le_of_ble_eq_true rfl) ⟨Nat.le_of_ble_eq_true rfl, Nat.le_of_ble_eq_true rfl⟩ [5, 6] (by decide) rfl rfl dX3_transmitCode_70) rfl rfl ?_
      have hf := Option.some.inj hf
      subst hf
      exact zg_vret X hF () rfl rfl (Nat.le_of_ble_eq_true rfl) (Nat.le_of_ble_eq_true rfl) dX3_transmitCode_73
  · have hf := pl_t c5 hf
    refine zg_aload_n X dX3_transmitCode_44 rfl 1 rfl ?_
    refine zg_get (C := RX3) (T := TX3) (N := 7) X 0 2 hiX3 rfl rfl (by decide) hw4 rfl dX3_transmitCode_45 ?_
    refine zg_iload_n X dX3_transmitCode_48 rfl 2 rfl ?_
    obtain ⟨b8, hb8, hf⟩ := pl_b hf
    refine zg_cU0 (ws2 := [(q0, .inr (2, [.ref q1, .ref q3, .ref q5, .ref q7, .ref q9, .int b4, .int v0.2.2.2.2.2.2])), (q1, .inr (4, [.ref q2, .int v0.1.2])), (q2, .inl (G.2.2.1, 200, .inl v0.1.1)), (q3, .inr (4, [.ref q4, .int b3.2])), (q4, .inl (G.2.2.1, 200, .inl b3.1)), (q5, .inr (4, [.ref q6, .int b8.2])), (q6, .inl (G.2.2.1, 200, .inl b8.1)), (q7, .inr (4, [.ref q8, .int v0.2.2.2.1.2])), (q8, .inl (G.2.2.1, 200, .inl v0.2.2.2.1.1)), (q9, .inr (4, [.ref q10, .int v0.2.2.2.2.1.2])), (q10, .inl (G.2.2.1, 120, .inl v0.2.2.2.2.1.1))]) X (zg_runV X (zc_X5_add G q5 q6 200 v0.2.2.1 a1 fu b8 hb8) gX3_transmitCode_X5_add rfl zh_X5_add ⟨rfl, rfl⟩ ⟨Nat.le_of_ble_eq_true rfl, Nat.le_of_ble_eq_true rfl⟩ rfl rfl rfl (Nat.le_of_ble_eq_true rfl) ⟨Nat.le_of_ble_eq_true rfl, Nat.le_of_ble_eq_true rfl⟩ [5, 6] (by decide) rfl rfl dX3_transmitCode_49) rfl rfl ?_
    refine zg_goto (tgt := 73) X dX3_transmitCode_52 (by decide) ?_
    have hf := Option.some.inj hf
    subst hf
    exact zg_vret X hF () rfl rfl (Nat.le_of_ble_eq_true rfl) (Nat.le_of_ble_eq_true rfl) dX3_transmitCode_73
theorem zh_X3_transmit : yX3_transmit.cls = RX3 ∧ yX3_transmit.cls ≠ "java/lang/invoke/MethodHandle" ∧ yX3_transmit.cls ≠ "java/lang/invoke/VarHandle" ∧ (parseMethodDescriptor yX3_transmit.desc).map (fun d => d.parameters.length) = some 1 := by decide +kernel
set_option maxHeartbeats 8000000 in
set_option maxRecDepth 100000 in
theorem zc_X3_transmit (G : zgG) (q0 q1 q2 q3 q4 q5 q6 q7 q8 q9 q10 q11 q12 : Nat) (N : Nat) (v0 : zLine) (v1 : zRow) (fu : Nat) (res : zLine) (hf : zf_X3_transmit fu N v0 v1 = some res) : zgCt G yX3_transmit wsX3_transmit ({ frames := 7, cells := 0, slots := 0, locals := 158 } : Room) [.ref q0, .ref q11] [(q0, .inr (2, [.ref q1, .ref q3, .ref q5, .ref q7, .ref q9, .int v0.2.2.2.2.2.1, .int v0.2.2.2.2.2.2])), (q1, .inr (4, [.ref q2, .int v0.1.2])), (q2, .inl (G.2.2.1, 200, .inl v0.1.1)), (q3, .inr (4, [.ref q4, .int v0.2.1.2])), (q4, .inl (G.2.2.1, 200, .inl v0.2.1.1)), (q5, .inr (4, [.ref q6, .int v0.2.2.1.2])), (q6, .inl (G.2.2.1, 200, .inl v0.2.2.1.1)), (q7, .inr (4, [.ref q8, .int v0.2.2.2.1.2])), (q8, .inl (G.2.2.1, 200, .inl v0.2.2.2.1.1)), (q9, .inr (4, [.ref q10, .int v0.2.2.2.2.1.2])), (q10, .inl (G.2.2.1, 120, .inl v0.2.2.2.2.1.1)), (q11, .inr (4, [.ref q12, .int v1.2])), (q12, .inl (G.2.2.1, N, .inl v1.1))] (fun _ : Unit => none) (fun _ => [(q0, .inr (2, [.ref q1, .ref q3, .ref q5, .ref q7, .ref q9, .int res.2.2.2.2.2.1, .int res.2.2.2.2.2.2])), (q1, .inr (4, [.ref q2, .int res.1.2])), (q2, .inl (G.2.2.1, 200, .inl res.1.1)), (q3, .inr (4, [.ref q4, .int res.2.1.2])), (q4, .inl (G.2.2.1, 200, .inl res.2.1.1)), (q5, .inr (4, [.ref q6, .int res.2.2.1.2])), (q6, .inl (G.2.2.1, 200, .inl res.2.2.1.1)), (q7, .inr (4, [.ref q8, .int res.2.2.2.1.2])), (q8, .inl (G.2.2.1, 200, .inl res.2.2.2.1.1)), (q9, .inr (4, [.ref q10, .int res.2.2.2.2.1.2])), (q10, .inl (G.2.2.1, 120, .inl res.2.2.2.2.1.1)), (q11, .inr (4, [.ref q12, .int v1.2])), (q12, .inl (G.2.2.1, N, .inl v1.1))]) 0 0 := by
  have hw0 : Cond.fieldLink RX3 14 "TelexReceiver$Line" "characterRow" "LTelexReceiver$Row;" ∈ wsX3_transmit := by decide +kernel
  have hiX3 : ∀ w ∈ u_ws RX3 TX3 7, w ∈ wsX3_transmit := by decide +kernel
  refine zg_of (own := RX3) (cc := cX3_transmit) (nL := 5) (ret := none) (by decide +kernel) rfl rfl (Nat.le_of_ble_eq_true rfl) (fun Z X hF => ?_)
  show zgGd G Z _ 0 0 5 _ 0 [(0, .ref q0), (1, .ref q11)] []
  have hL33 : ∀ (n : Nat) (y3 : Int32) (w0 : zRow) (w1 : zRow) (w2 : zRow) (w3 : zRow) (w4 : zRow) (w5 : Int32) (w6 : Int32), zf_X3_transmit_L33 fu N v0 v1 n y3 w0 w1 w2 w3 w4 w5 w6 = some res → zgGd G Z ({ frames := 7, cells := 0, slots := 0, locals := 158 } : Room) 0 0 5 [(q0, .inr (2, [.ref q1, .ref q3, .ref q5, .ref q7, .ref q9, .int w5, .int w6])), (q1, .inr (4, [.ref q2, .int w0.2])), (q2, .inl (G.2.2.1, 200, .inl w0.1)), (q3, .inr (4, [.ref q4, .int w1.2])), (q4, .inl (G.2.2.1, 200, .inl w1.1)), (q5, .inr (4, [.ref q6, .int w2.2])), (q6, .inl (G.2.2.1, 200, .inl w2.1)), (q7, .inr (4, [.ref q8, .int w3.2])), (q8, .inl (G.2.2.1, 200, .inl w3.1)), (q9, .inr (4, [.ref q10, .int w4.2])), (q10, .inl (G.2.2.1, 120, .inl w4.1)), (q11, .inr (4, [.ref q12, .int v1.2])), (q12, .inl (G.2.2.1, N, .inl v1.1))] 33 [(0, .ref q0), (1, .ref q11), (3, .int y3)] [] := by
    intro n
    induction n with
    | zero =>
      intro y3 w0 w1 w2 w3 w4 w5 w6 hf
      rw [zf_X3_transmit_L33] at hf
      cases hf
    | succ n33 ih33 =>
      have hb67 : ∀ (y3 : Int32) (w0 : zRow) (w1 : zRow) (w2 : zRow) (w3 : zRow) (w4 : zRow) (w5 : Int32) (w6 : Int32), zf_X3_transmit_b67 fu N v0 v1 (zf_X3_transmit_L33 fu N v0 v1 n33) y3 w0 w1 w2 w3 w4 w5 w6 = some res → zgGd G Z ({ frames := 7, cells := 0, slots := 0, locals := 158 } : Room) 0 0 5 [(q0, .inr (2, [.ref q1, .ref q3, .ref q5, .ref q7, .ref q9, .int w5, .int w6])), (q1, .inr (4, [.ref q2, .int w0.2])), (q2, .inl (G.2.2.1, 200, .inl w0.1)), (q3, .inr (4, [.ref q4, .int w1.2])), (q4, .inl (G.2.2.1, 200, .inl w1.1)), (q5, .inr (4, [.ref q6, .int w2.2])), (q6, .inl (G.2.2.1, 200, .inl w2.1)), (q7, .inr (4, [.ref q8, .int w3.2])), (q8, .inl (G.2.2.1, 200, .inl w3.1)), (q9, .inr (4, [.ref q10, .int w4.2])), (q10, .inl (G.2.2.1, 120, .inl w4.1)), (q11, .inr (4, [.ref q12, .int v1.2])), (q12, .inl (G.2.2.1, N, .inl v1.1))] 67 [(0, .ref q0), (1, .ref q11), (3, .int y3)] [] := by
        intro y3 w0 w1 w2 w3 w4 w5 w6 hf
        unfold zf_X3_transmit_b67 at hf
        obtain ⟨x13, ex13, hf⟩ := pl_l hf
        refine zg_iinc (v := x13) (L' := [(3, .int x13), (0, .ref q0), (1, .ref q11)]) X dX3_transmit_67 (j := 2) rfl (by rw [ex13]; rfl) (by decide) rfl ?_
        refine zg_goto (tgt := 33) X dX3_transmit_70 (by decide) ?_
        refine zg_loc [1, 2, 0] rfl ?_
        exact ih33 x13 w0 w1 w2 w3 w4 w5 w6 hf
      intro y3 w0 w1 w2 w3 w4 w5 w6 hf
      rw [zf_X3_transmit_L33] at hf
      refine zg_iload_n X dX3_transmit_33 rfl 2 rfl ?_
      refine zg_aload_n X dX3_transmit_34 rfl 1 rfl ?_
      obtain ⟨b7, hb7, hf⟩ := pl_b hf
      refine zg_cP1 X (zg_runV X (zc_X5_size G q11 q12 N v1 fu b7 hb7) gX3_transmit_X5_size rfl zh_X5_size ⟨rfl, rfl⟩ ⟨Nat.le_of_ble_eq_true rfl, Nat.le_of_ble_eq_true rfl⟩ rfl rfl rfl (Nat.le_of_ble_eq_true rfl) ⟨Nat.le_of_ble_eq_true rfl, Nat.le_of_ble_eq_true rfl⟩ [11, 12] (by decide) rfl rfl dX3_transmit_35) rfl ?_
      refine zg_icmp_ge (tgt := 73) X dX3_transmit_38 (by decide) (fun c8 => ?_) (fun c8 => ?_)
      · have hf := pl_t c8 hf
        have hf := Option.some.inj hf
        subst hf
        exact zg_vret X hF () rfl rfl (Nat.le_of_ble_eq_true rfl) (Nat.le_of_ble_eq_true rfl) dX3_transmit_73
      · have hf := pl_f c8 hf
        refine zg_aload_n X dX3_transmit_41 rfl 1 rfl ?_
        refine zg_iload_n X dX3_transmit_42 rfl 2 rfl ?_
        obtain ⟨b9, hb9, hf⟩ := pl_b hf
        refine zg_cP1 X (zg_runV X (zc_X5_at G q11 q12 N v1 y3 fu b9 hb9) gX3_transmit_X5_at rfl zh_X5_at ⟨rfl, rfl⟩ ⟨Nat.le_of_ble_eq_true rfl, Nat.le_of_ble_eq_true rfl⟩ rfl rfl rfl (Nat.le_of_ble_eq_true rfl) ⟨Nat.le_of_ble_eq_true rfl, Nat.le_of_ble_eq_true rfl⟩ [11, 12] (by decide) rfl rfl dX3_transmit_43) rfl ?_
        refine zg_istore (L' := [(4, .int b9), (0, .ref q0), (1, .ref q11), (3, .int y3)]) X dX3_transmit_46 (by decide) rfl ?_
        refine zg_iload X dX3_transmit_48 0 rfl ?_
        obtain ⟨b10, hb10, hf⟩ := pl_b hf
        refine zg_cP1 X (zg_runS X (zc_X0_codeOf G b9 fu b10 hb10) gX3_transmit_X0_codeOf rfl zh_X0_codeOf.2 ⟨rfl, rfl⟩ ⟨Nat.le_of_ble_eq_true rfl, Nat.le_of_ble_eq_true rfl⟩ rfl (Nat.le_of_ble_eq_true rfl) ⟨Nat.le_of_ble_eq_true rfl, Nat.le_of_ble_eq_true rfl⟩ [] (by decide) rfl rfl dX3_transmit_50) rfl ?_
        refine zg_bipush (v := 29) X dX3_transmit_53 (by decide) ?_
        refine zg_icmp_eq (tgt := 67) X dX3_transmit_55 (by decide) (fun c11 => ?_) (fun c11 => ?_)
        · have hf := pl_t c11 hf
          refine zg_loc [1, 2, 3] rfl ?_
          exact hb67 y3 w0 w1 w2 w3 w4 w5 w6 hf
        · have hf := pl_f c11 hf
          refine zg_aload_n X dX3_transmit_58 rfl 1 rfl ?_
          refine zg_get (C := RX3) (T := TX3) (N := 7) X 0 0 hiX3 rfl rfl (by decide) hw0 rfl dX3_transmit_59 ?_
          refine zg_iload X dX3_transmit_62 0 rfl ?_
          obtain ⟨b12, hb12, hf⟩ := pl_b hf
          refine zg_cU0 (ws2 := [(q0, .inr (2, [.ref q1, .ref q3, .ref q5, .ref q7, .ref q9, .int w5, .int w6])), (q1, .inr (4, [.ref q2, .int b12.2])), (q2, .inl (G.2.2.1, 200, .inl b12.1)), (q3, .inr (4, [.ref q4, .int w1.2])), (q4, .inl (G.2.2.1, 200, .inl w1.1)), (q5, .inr (4, [.ref q6, .int w2.2])), (q6, .inl (G.2.2.1, 200, .inl w2.1)), (q7, .inr (4, [.ref q8, .int w3.2])), (q8, .inl (G.2.2.1, 200, .inl w3.1)), (q9, .inr (4, [.ref q10, .int w4.2])), (q10, .inl (G.2.2.1, 120, .inl w4.1)), (q11, .inr (4, [.ref q12, .int v1.2])), (q12, .inl (G.2.2.1, N, .inl v1.1))]) X (zg_runV X (zc_X5_add G q1 q2 200 w0 b9 fu b12 hb12) gX3_transmit_X5_add rfl zh_X5_add ⟨rfl, rfl⟩ ⟨Nat.le_of_ble_eq_true rfl, Nat.le_of_ble_eq_true rfl⟩ rfl rfl rfl (Nat.le_of_ble_eq_true rfl) ⟨Nat.le_of_ble_eq_true rfl, Nat.le_of_ble_eq_true rfl⟩ [1, 2] (by decide) rfl rfl dX3_transmit_64) rfl rfl ?_
          refine zg_loc [1, 2, 3] rfl ?_
          exact hb67 y3 b12 w1 w2 w3 w4 w5 w6 hf
  have hL8 : ∀ (n : Nat) (y3 : Int32) (w0 : zRow) (w1 : zRow) (w2 : zRow) (w3 : zRow) (w4 : zRow) (w5 : Int32) (w6 : Int32), zf_X3_transmit_L8 fu N v0 v1 n y3 w0 w1 w2 w3 w4 w5 w6 = some res → zgGd G Z ({ frames := 7, cells := 0, slots := 0, locals := 158 } : Room) 0 0 5 [(q0, .inr (2, [.ref q1, .ref q3, .ref q5, .ref q7, .ref q9, .int w5, .int w6])), (q1, .inr (4, [.ref q2, .int w0.2])), (q2, .inl (G.2.2.1, 200, .inl w0.1)), (q3, .inr (4, [.ref q4, .int w1.2])), (q4, .inl (G.2.2.1, 200, .inl w1.1)), (q5, .inr (4, [.ref q6, .int w2.2])), (q6, .inl (G.2.2.1, 200, .inl w2.1)), (q7, .inr (4, [.ref q8, .int w3.2])), (q8, .inl (G.2.2.1, 200, .inl w3.1)), (q9, .inr (4, [.ref q10, .int w4.2])), (q10, .inl (G.2.2.1, 120, .inl w4.1)), (q11, .inr (4, [.ref q12, .int v1.2])), (q12, .inl (G.2.2.1, N, .inl v1.1))] 8 [(0, .ref q0), (1, .ref q11), (2, .ref q9), (3, .int y3)] [] := by
    intro n
    induction n with
    | zero =>
      intro y3 w0 w1 w2 w3 w4 w5 w6 hf
      rw [zf_X3_transmit_L8] at hf
      cases hf
    | succ n8 ih8 =>
      intro y3 w0 w1 w2 w3 w4 w5 w6 hf
      rw [zf_X3_transmit_L8] at hf
      refine zg_iload_n X dX3_transmit_8 rfl 3 rfl ?_
      refine zg_aload_n X dX3_transmit_9 rfl 2 rfl ?_
      obtain ⟨b2, hb2, hf⟩ := pl_b hf
      refine zg_cP1 X (zg_runV X (zc_X5_size G q9 q10 120 w4 fu b2 hb2) gX3_transmit_X5_size rfl zh_X5_size ⟨rfl, rfl⟩ ⟨Nat.le_of_ble_eq_true rfl, Nat.le_of_ble_eq_true rfl⟩ rfl rfl rfl (Nat.le_of_ble_eq_true rfl) ⟨Nat.le_of_ble_eq_true rfl, Nat.le_of_ble_eq_true rfl⟩ [9, 10] (by decide) rfl rfl dX3_transmit_10) rfl ?_
      refine zg_icmp_ge (tgt := 31) X dX3_transmit_13 (by decide) (fun c3 => ?_) (fun c3 => ?_)
      · have hf := pl_t c3 hf
        refine zg_iconst (v := 0) X dX3_transmit_31 (by decide) ?_
        refine zg_istore_n (L' := [(3, .int 0), (0, .ref q0), (1, .ref q11), (2, .ref q9)]) X dX3_transmit_32 rfl (by decide) rfl ?_
        refine zg_loc [1, 2, 0] rfl ?_
        exact hL33 fu 0 w0 w1 w2 w3 w4 w5 w6 hf
      · have hf := pl_f c3 hf
        refine zg_aload_n X dX3_transmit_16 rfl 0 rfl ?_
        refine zg_aload_n X dX3_transmit_17 rfl 2 rfl ?_
        refine zg_iload_n X dX3_transmit_18 rfl 3 rfl ?_
        obtain ⟨b4, hb4, hf⟩ := pl_b hf
        refine zg_cP1 X (zg_runV X (zc_X5_at G q9 q10 120 w4 y3 fu b4 hb4) gX3_transmit_X5_at rfl zh_X5_at ⟨rfl, rfl⟩ ⟨Nat.le_of_ble_eq_true rfl, Nat.le_of_ble_eq_true rfl⟩ rfl rfl rfl (Nat.le_of_ble_eq_true rfl) ⟨Nat.le_of_ble_eq_true rfl, Nat.le_of_ble_eq_true rfl⟩ [9, 10] (by decide) rfl rfl dX3_transmit_19) rfl ?_
        obtain ⟨b5, hb5, hf⟩ := pl_b hf
        refine zg_cU0 (ws2 := [(q0, .inr (2, [.ref q1, .ref q3, .ref q5, .ref q7, .ref q9, .int b5.2.2.2.2.2.1, .int b5.2.2.2.2.2.2])), (q1, .inr (4, [.ref q2, .int b5.1.2])), (q2, .inl (G.2.2.1, 200, .inl b5.1.1)), (q3, .inr (4, [.ref q4, .int b5.2.1.2])), (q4, .inl (G.2.2.1, 200, .inl b5.2.1.1)), (q5, .inr (4, [.ref q6, .int b5.2.2.1.2])), (q6, .inl (G.2.2.1, 200, .inl b5.2.2.1.1)), (q7, .inr (4, [.ref q8, .int b5.2.2.2.1.2])), (q8, .inl (G.2.2.1, 200, .inl b5.2.2.2.1.1)), (q9, .inr (4, [.ref q10, .int b5.2.2.2.2.1.2])), (q10, .inl (G.2.2.1, 120, .inl b5.2.2.2.2.1.1)), (q11, .inr (4, [.ref q12, .int v1.2])), (q12, .inl (G.2.2.1, N, .inl v1.1))]) X (zg_runV X (zc_X3_transmitCode G q0 q1 q2 q3 q4 q5 q6 q7 q8 q9 q10 (w0, w1, w2, w3, w4, w5, w6) b4 fu b5 hb5) gX3_transmit_X3_transmitCode rfl zh_X3_transmitCode ⟨rfl, rfl⟩ ⟨Nat.le_of_ble_eq_true rfl, Nat.le_of_ble_eq_true rfl⟩ rfl rfl rfl (Nat.le_of_ble_eq_true rfl) ⟨Nat.le_of_ble_eq_true rfl, Nat.le_of_ble_eq_true rfl⟩ [0, 1, 2, 3, 4, 5, 6, 7, 8, 9, 10] (by decide) rfl rfl dX3_transmit_22) rfl rfl ?_
        obtain ⟨x6, ex6, hf⟩ := pl_l hf
        refine zg_iinc (v := x6) (L' := [(3, .int x6), (0, .ref q0), (1, .ref q11), (2, .ref q9)]) X dX3_transmit_25 (j := 3) rfl (by rw [ex6]; rfl) (by decide) rfl ?_
        refine zg_goto (tgt := 8) X dX3_transmit_28 (by decide) ?_
        refine zg_loc [1, 2, 3, 0] rfl ?_
        exact ih8 x6 b5.1 b5.2.1 b5.2.2.1 b5.2.2.2.1 b5.2.2.2.2.1 b5.2.2.2.2.2.1 b5.2.2.2.2.2.2 hf
  unfold zf_X3_transmit at hf
  refine zg_aload_n X dX3_transmit_0 rfl 0 rfl ?_
  refine zg_aload_n X dX3_transmit_1 rfl 1 rfl ?_
  obtain ⟨b1, hb1, hf⟩ := pl_b hf
  refine zg_cU1 (ws2 := [(q0, .inr (2, [.ref q1, .ref q3, .ref q5, .ref q7, .ref q9, .int b1.2.2.2.2.2.1, .int b1.2.2.2.2.2.2])), (q1, .inr (4, [.ref q2, .int b1.1.2])), (q2, .inl (G.2.2.1, 200, .inl b1.1.1)), (q3, .inr (4, [.ref q4, .int b1.2.1.2])), (q4, .inl (G.2.2.1, 200, .inl b1.2.1.1)), (q5, .inr (4, [.ref q6, .int b1.2.2.1.2])), (q6, .inl (G.2.2.1, 200, .inl b1.2.2.1.1)), (q7, .inr (4, [.ref q8, .int b1.2.2.2.1.2])), (q8, .inl (G.2.2.1, 200, .inl b1.2.2.2.1.1)), (q9, .inr (4, [.ref q10, .int b1.2.2.2.2.1.2])), (q10, .inl (G.2.2.1, 120, .inl b1.2.2.2.2.1.1)), (q11, .inr (4, [.ref q12, .int v1.2])), (q12, .inl (G.2.2.1, N, .inl v1.1))]) X (zg_runV X (zc_X3_encode G q0 q1 q2 q3 q4 q5 q6 q7 q8 q9 q10 q11 q12 N v0 v1 fu b1 hb1) gX3_transmit_X3_encode rfl zh_X3_encode ⟨rfl, rfl⟩ ⟨Nat.le_of_ble_eq_true rfl, Nat.le_of_ble_eq_true rfl⟩ rfl rfl rfl (Nat.le_of_ble_eq_true rfl) ⟨Nat.le_of_ble_eq_true rfl, Nat.le_of_ble_eq_true rfl⟩ [0, 1, 2, 3, 4, 5, 6, 7, 8, 9, 10, 11, 12] (by decide) rfl rfl dX3_transmit_2) rfl rfl ?_
  refine zg_astore_n (L' := [(2, .ref q9), (0, .ref q0), (1, .ref q11)]) X dX3_transmit_5 rfl (by decide) rfl ?_
  refine zg_iconst (v := 0) X dX3_transmit_6 (by decide) ?_
  refine zg_istore_n (L' := [(3, .int 0), (2, .ref q9), (0, .ref q0), (1, .ref q11)]) X dX3_transmit_7 rfl (by decide) rfl ?_
  refine zg_loc [2, 3, 1, 0] rfl ?_
  exact hL8 fu 0 b1.1 b1.2.1 b1.2.2.1 b1.2.2.2.1 b1.2.2.2.2.1 b1.2.2.2.2.2.1 b1.2.2.2.2.2.2 hf
