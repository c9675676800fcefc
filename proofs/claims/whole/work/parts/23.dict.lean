theorem zh_X1_wordOfCharacters : yX1_wordOfCharacters.cls = RX1 ∧ yX1_wordOfCharacters.cls ≠ "java/lang/invoke/MethodHandle" ∧ yX1_wordOfCharacters.cls ≠ "java/lang/invoke/VarHandle" ∧ (parseMethodDescriptor yX1_wordOfCharacters.desc).map (fun d => d.parameters.length) = some 1 := by decide +kernel
set_option maxHeartbeats 8000000 in
set_option maxRecDepth 100000 in
theorem zc_X1_wordOfCharacters (G : zgG) (q0 q1 : Nat) (N : Nat) (v0 : zRow) (fu : Nat) (res : Int32) (hf : zf_X1_wordOfCharacters fu N v0 = some res) : zgCt G yX1_wordOfCharacters wsX1_wordOfCharacters ({ frames := 6, cells := 0, slots := 0, locals := 132 } : Room) [.ref q0] [(q0, .inr (4, [.ref q1, .int v0.2])), (q1, .inl (G.2.2.1, N, .inl v0.1))] (fun _ : Unit => some (.int res)) (fun _ => [(q0, .inr (4, [.ref q1, .int v0.2])), (q1, .inl (G.2.2.1, N, .inl v0.1))]) 0 0 := by
  refine zg_of (own := RX1) (cc := cX1_wordOfCharacters) (nL := 3) (ret := (some .int)) (by decide +kernel) rfl rfl (Nat.le_of_ble_eq_true rfl) (fun Z X hF => ?_)
  show zgGd G Z _ 0 0 3 _ 0 [(0, .ref q0)] []
  have hL15 : ∀ (n : Nat) (y1 : Int32) (y2 : Int32), zf_X1_wordOfCharacters_L15 fu N v0 n y1 y2 = some res → zgGd G Z ({ frames := 6, cells := 0, slots := 0, locals := 132 } : Room) 0 0 3 [(q0, .inr (4, [.ref q1, .int v0.2])), (q1, .inl (G.2.2.1, N, .inl v0.1))] 15 [(0, .ref q0), (1, .int y1), (2, .int y2)] [] := by
    intro n
    induction n with
    | zero =>
      intro y1 y2 hf
      rw [zf_X1_wordOfCharacters_L15] at hf
      cases hf
    | succ n15 ih15 =>
      intro y1 y2 hf
      rw [zf_X1_wordOfCharacters_L15] at hf
      refine zg_iload_n X dX1_wordOfCharacters_15 rfl 2 rfl ?_
      refine zg_aload_n X dX1_wordOfCharacters_16 rfl 0 rfl ?_
      obtain ⟨b3, hb3, hf⟩ := pl_b hf
      refine zg_cP1 X (zg_runV X (zc_X5_size G q0 q1 N v0 fu b3 hb3) gX1_wordOfCharacters_X5_size rfl zh_X5_size ⟨rfl, rfl⟩ ⟨Nat.le_of_ble_eq_true rfl, Nat.le_of_ble_eq_true rfl⟩ rfl rfl rfl (Nat.le_of_ble_eq_true rfl) ⟨Nat.le_of_ble_eq_true rfl, Nat.le_of_ble_eq_true rfl⟩ [0, 1] (by decide) rfl rfl dX1_wordOfCharacters_17) rfl ?_
      refine zg_icmp_ge (tgt := 57) X dX1_wordOfCharacters_20 (by decide) (fun c4 => ?_) (fun c4 => ?_)
      · have hf := pl_t c4 hf
        refine zg_iload_n X dX1_wordOfCharacters_57 rfl 1 rfl ?_
        have hf := Option.some.inj hf
        subst hf
        exact zg_iret X hF rfl rfl () rfl rfl (Nat.le_of_ble_eq_true rfl) (Nat.le_of_ble_eq_true rfl) dX1_wordOfCharacters_58
      · have hf := pl_f c4 hf
        refine zg_aload_n X dX1_wordOfCharacters_23 rfl 0 rfl ?_
        refine zg_iload_n X dX1_wordOfCharacters_24 rfl 2 rfl ?_
        obtain ⟨b5, hb5, hf⟩ := pl_b hf
        refine zg_cP1 X (zg_runV X (zc_X5_at G q0 q1 N v0 y2 fu b5 hb5) gX1_wordOfCharacters_X5_at rfl zh_X5_at ⟨rfl, rfl⟩ ⟨Nat.le_of_ble_eq_true rfl, Nat.le_of_ble_eq_true rfl⟩ rfl rfl rfl (Nat.le_of_ble_eq_true rfl) ⟨Nat.le_of_ble_eq_true rfl, Nat.le_of_ble_eq_true rfl⟩ [0, 1] (by decide) rfl rfl dX1_wordOfCharacters_25) rfl ?_
        obtain ⟨b6, hb6, hf⟩ := pl_b hf
        refine zg_cP1 X (zg_runS X (zc_X0_isLetter G b5 fu b6 hb6) gX1_wordOfCharacters_X0_isLetter rfl zh_X0_isLetter.2 ⟨rfl, rfl⟩ ⟨Nat.le_of_ble_eq_true rfl, Nat.le_of_ble_eq_true rfl⟩ rfl (Nat.le_of_ble_eq_true rfl) ⟨Nat.le_of_ble_eq_true rfl, Nat.le_of_ble_eq_true rfl⟩ [] (by decide) rfl rfl dX1_wordOfCharacters_28) rfl ?_
        refine zg_if_ne (tgt := 36) X dX1_wordOfCharacters_31 (by decide) (fun c7 => ?_) (fun c7 => ?_)
        · have hf := pl_f c7 hf
          refine zg_iload_n X dX1_wordOfCharacters_36 rfl 1 rfl ?_
          refine zg_aload_n X dX1_wordOfCharacters_37 rfl 0 rfl ?_
          refine zg_iload_n X dX1_wordOfCharacters_38 rfl 2 rfl ?_
          obtain ⟨b8, hb8, hf⟩ := pl_b hf
          refine zg_cP1 X (zg_runV X (zc_X5_at G q0 q1 N v0 y2 fu b8 hb8) gX1_wordOfCharacters_X5_at rfl zh_X5_at ⟨rfl, rfl⟩ ⟨Nat.le_of_ble_eq_true rfl, Nat.le_of_ble_eq_true rfl⟩ rfl rfl rfl (Nat.le_of_ble_eq_true rfl) ⟨Nat.le_of_ble_eq_true rfl, Nat.le_of_ble_eq_true rfl⟩ [0, 1] (by decide) rfl rfl dX1_wordOfCharacters_39) rfl ?_
          obtain ⟨b9, hb9, hf⟩ := pl_b hf
          refine zg_cP1 X (zg_runS X (zc_X0_codeOf G b8 fu b9 hb9) gX1_wordOfCharacters_X0_codeOf rfl zh_X0_codeOf.2 ⟨rfl, rfl⟩ ⟨Nat.le_of_ble_eq_true rfl, Nat.le_of_ble_eq_true rfl⟩ rfl (Nat.le_of_ble_eq_true rfl) ⟨Nat.le_of_ble_eq_true rfl, Nat.le_of_ble_eq_true rfl⟩ [] (by decide) rfl rfl dX1_wordOfCharacters_42) rfl ?_
          refine zg_iconst (v := 5) X dX1_wordOfCharacters_45 (by decide) ?_
          refine zg_iload_n X dX1_wordOfCharacters_46 rfl 2 rfl ?_
          refine zg_imul X dX1_wordOfCharacters_47 ?_
          refine zg_ishl X dX1_wordOfCharacters_48 ?_
          refine zg_ior X dX1_wordOfCharacters_49 ?_
          obtain ⟨x10, ex10, hf⟩ := pl_l hf
          refine zg_topi ex10 ?_
          refine zg_istore_n (L' := [(1, .int x10), (0, .ref q0), (2, .int y2)]) X dX1_wordOfCharacters_50 rfl (by decide) rfl ?_
          obtain ⟨x11, ex11, hf⟩ := pl_l hf
          refine zg_iinc (v := x11) (L' := [(2, .int x11), (1, .int x10), (0, .ref q0)]) X dX1_wordOfCharacters_51 (j := 2) rfl (by rw [ex11]; rfl) (by decide) rfl ?_
          refine zg_goto (tgt := 15) X dX1_wordOfCharacters_54 (by decide) ?_
          refine zg_loc [2, 1, 0] rfl ?_
          exact ih15 x10 x11 hf
        · have hf := pl_t c7 hf
          refine zg_iconst (v := 0) X dX1_wordOfCharacters_34 (by decide) ?_
          have hf := Option.some.inj hf
          subst hf
          exact zg_iret X hF rfl rfl () rfl rfl (Nat.le_of_ble_eq_true rfl) (Nat.le_of_ble_eq_true rfl) dX1_wordOfCharacters_35
  unfold zf_X1_wordOfCharacters at hf
  refine zg_aload_n X dX1_wordOfCharacters_0 rfl 0 rfl ?_
  obtain ⟨b1, hb1, hf⟩ := pl_b hf
  refine zg_cP1 X (zg_runV X (zc_X5_size G q0 q1 N v0 fu b1 hb1) gX1_wordOfCharacters_X5_size rfl zh_X5_size ⟨rfl, rfl⟩ ⟨Nat.le_of_ble_eq_true rfl, Nat.le_of_ble_eq_true rfl⟩ rfl rfl rfl (Nat.le_of_ble_eq_true rfl) ⟨Nat.le_of_ble_eq_true rfl, Nat.le_of_ble_eq_true rfl⟩ [0, 1] (by decide) rfl rfl dX1_wordOfCharacters_1) rfl ?_
  refine zg_bipush (v := 6) X dX1_wordOfCharacters_4 (by decide) ?_
  refine zg_icmp_le (tgt := 11) X dX1_wordOfCharacters_6 (by decide) (fun c2 => ?_) (fun c2 => ?_)
  · have hf := pl_t c2 hf
    refine zg_iconst (v := 0) X dX1_wordOfCharacters_11 (by decide) ?_
    refine zg_istore_n (L' := [(1, .int 0), (0, .ref q0)]) X dX1_wordOfCharacters_12 rfl (by decide) rfl ?_
    refine zg_iconst (v := 0) X dX1_wordOfCharacters_13 (by decide) ?_
    refine zg_istore_n (L' := [(2, .int 0), (1, .int 0), (0, .ref q0)]) X dX1_wordOfCharacters_14 rfl (by decide) rfl ?_
    refine zg_loc [2, 1, 0] rfl ?_
    exact hL15 fu 0 0 hf
  · have hf := pl_f c2 hf
    refine zg_iconst (v := 0) X dX1_wordOfCharacters_9 (by decide) ?_
    have hf := Option.some.inj hf
    subst hf
    exact zg_iret X hF rfl rfl () rfl rfl (Nat.le_of_ble_eq_true rfl) (Nat.le_of_ble_eq_true rfl) dX1_wordOfCharacters_10
theorem zh_X1_wordOfCodes : yX1_wordOfCodes.cls = RX1 ∧ yX1_wordOfCodes.cls ≠ "java/lang/invoke/MethodHandle" ∧ yX1_wordOfCodes.cls ≠ "java/lang/invoke/VarHandle" ∧ (parseMethodDescriptor yX1_wordOfCodes.desc).map (fun d => d.parameters.length) = some 3 := by decide +kernel
set_option maxHeartbeats 8000000 in
set_option maxRecDepth 100000 in
theorem zc_X1_wordOfCodes (G : zgG) (q0 q1 : Nat) (N : Nat) (v0 : zRow) (a1 : Int32) (a2 : Int32) (fu : Nat) (res : Int32) (hf : zf_X1_wordOfCodes fu N v0 a1 a2 = some res) : zgCt G yX1_wordOfCodes wsX1_wordOfCodes ({ frames := 2, cells := 0, slots := 0, locals := 42 } : Room) [.ref q0, .int a1, .int a2] [(q0, .inr (4, [.ref q1, .int v0.2])), (q1, .inl (G.2.2.1, N, .inl v0.1))] (fun _ : Unit => some (.int res)) (fun _ => [(q0, .inr (4, [.ref q1, .int v0.2])), (q1, .inl (G.2.2.1, N, .inl v0.1))]) 0 0 := by
  refine zg_of (own := RX1) (cc := cX1_wordOfCodes) (nL := 5) (ret := (some .int)) (by decide +kernel) rfl rfl (Nat.le_of_ble_eq_true rfl) (fun Z X hF => ?_)
  show zgGd G Z _ 0 0 5 _ 0 [(0, .ref q0), (1, .int a1), (2, .int a2)] []
  have hL15 : ∀ (n : Nat) (y1 : Int32) (y2 : Int32) (y3 : Int32) (y4 : Int32), zf_X1_wordOfCodes_L15 fu N v0 n y1 y2 y3 y4 = some res → zgGd G Z ({ frames := 2, cells := 0, slots := 0, locals := 42 } : Room) 0 0 5 [(q0, .inr (4, [.ref q1, .int v0.2])), (q1, .inl (G.2.2.1, N, .inl v0.1))] 15 [(0, .ref q0), (1, .int y1), (2, .int y2), (3, .int y3), (4, .int y4)] [] := by
    intro n
    induction n with
    | zero =>
      intro y1 y2 y3 y4 hf
      rw [zf_X1_wordOfCodes_L15] at hf
      cases hf
    | succ n15 ih15 =>
      intro y1 y2 y3 y4 hf
      rw [zf_X1_wordOfCodes_L15] at hf
      refine zg_iload X dX1_wordOfCodes_15 4 rfl ?_
      refine zg_iload_n X dX1_wordOfCodes_17 rfl 2 rfl ?_
      refine zg_icmp_ge (tgt := 43) X dX1_wordOfCodes_18 (by decide) (fun c2 => ?_) (fun c2 => ?_)
      · have hf := pl_t c2 hf
        refine zg_iload_n X dX1_wordOfCodes_43 rfl 3 rfl ?_
        have hf := Option.some.inj hf
        subst hf
        exact zg_iret X hF rfl rfl () rfl rfl (Nat.le_of_ble_eq_true rfl) (Nat.le_of_ble_eq_true rfl) dX1_wordOfCodes_44
      · have hf := pl_f c2 hf
        refine zg_iload_n X dX1_wordOfCodes_21 rfl 3 rfl ?_
        refine zg_aload_n X dX1_wordOfCodes_22 rfl 0 rfl ?_
        refine zg_iload X dX1_wordOfCodes_23 4 rfl ?_
        obtain ⟨b3, hb3, hf⟩ := pl_b hf
        refine zg_cP1 X (zg_runV X (zc_X5_at G q0 q1 N v0 y4 fu b3 hb3) gX1_wordOfCodes_X5_at rfl zh_X5_at ⟨rfl, rfl⟩ ⟨Nat.le_of_ble_eq_true rfl, Nat.le_of_ble_eq_true rfl⟩ rfl rfl rfl (Nat.le_of_ble_eq_true rfl) ⟨Nat.le_of_ble_eq_true rfl, Nat.le_of_ble_eq_true rfl⟩ [0, 1] (by decide) rfl rfl dX1_wordOfCodes_25) rfl ?_
        refine zg_iconst (v := 5) X dX1_wordOfCodes_28 (by decide) ?_
        refine zg_iload X dX1_wordOfCodes_29 4 rfl ?_
        refine zg_iload_n X dX1_wordOfCodes_31 rfl 1 rfl ?_
        refine zg_isub X dX1_wordOfCodes_32 ?_
        refine zg_imul X dX1_wordOfCodes_33 ?_
        refine zg_ishl X dX1_wordOfCodes_34 ?_
        refine zg_ior X dX1_wordOfCodes_35 ?_
        obtain ⟨x4, ex4, hf⟩ := pl_l hf
        refine zg_topi ex4 ?_
        refine zg_istore_n (L' := [(3, .int x4), (0, .ref q0), (1, .int y1), (2, .int y2), (4, .int y4)]) X dX1_wordOfCodes_36 rfl (by decide) rfl ?_
        obtain ⟨x5, ex5, hf⟩ := pl_l hf
        refine zg_iinc (v := x5) (L' := [(4, .int x5), (3, .int x4), (0, .ref q0), (1, .int y1), (2, .int y2)]) X dX1_wordOfCodes_37 (j := 4) rfl (by rw [ex5]; rfl) (by decide) rfl ?_
        refine zg_goto (tgt := 15) X dX1_wordOfCodes_40 (by decide) ?_
        refine zg_loc [2, 3, 4, 1, 0] rfl ?_
        exact ih15 y1 y2 x4 x5 hf
  unfold zf_X1_wordOfCodes at hf
  refine zg_iload_n X dX1_wordOfCodes_0 rfl 2 rfl ?_
  refine zg_iload_n X dX1_wordOfCodes_1 rfl 1 rfl ?_
  refine zg_isub X dX1_wordOfCodes_2 ?_
  refine zg_bipush (v := 6) X dX1_wordOfCodes_3 (by decide) ?_
  refine zg_icmp_le (tgt := 10) X dX1_wordOfCodes_5 (by decide) (fun c1 => ?_) (fun c1 => ?_)
  · have hf := pl_t c1 hf
    refine zg_iconst (v := 0) X dX1_wordOfCodes_10 (by decide) ?_
    refine zg_istore_n (L' := [(3, .int 0), (0, .ref q0), (1, .int a1), (2, .int a2)]) X dX1_wordOfCodes_11 rfl (by decide) rfl ?_
    refine zg_iload_n X dX1_wordOfCodes_12 rfl 2 rfl ?_
    refine zg_istore (L' := [(4, .int a1), (3, .int 0), (0, .ref q0), (1, .int a1), (2, .int a2)]) X dX1_wordOfCodes_13 (by decide) rfl ?_
    refine zg_loc [2, 3, 4, 1, 0] rfl ?_
    exact hL15 fu a1 a2 0 a1 hf
  · have hf := pl_f c1 hf
    refine zg_iconst (v := 0) X dX1_wordOfCodes_8 (by decide) ?_
    have hf := Option.some.inj hf
    subst hf
    exact zg_iret X hF rfl rfl () rfl rfl (Nat.le_of_ble_eq_true rfl) (Nat.le_of_ble_eq_true rfl) dX1_wordOfCodes_9
theorem zh_X1_areDigits : yX1_areDigits.cls = RX1 ∧ yX1_areDigits.cls ≠ "java/lang/invoke/MethodHandle" ∧ yX1_areDigits.cls ≠ "java/lang/invoke/VarHandle" ∧ (parseMethodDescriptor yX1_areDigits.desc).map (fun d => d.parameters.length) = some 3 := by decide +kernel
set_option maxHeartbeats 8000000 in
set_option maxRecDepth 100000 in
theorem zc_X1_areDigits (G : zgG) (q0 q1 : Nat) (N : Nat) (v0 : zRow) (a1 : Int32) (a2 : Int32) (fu : Nat) (res : Int32) (hf : zf_X1_areDigits fu N v0 a1 a2 = some res) : zgCt G yX1_areDigits wsX1_areDigits ({ frames := 2, cells := 0, slots := 0, locals := 42 } : Room) [.ref q0, .int a1, .int a2] [(q0, .inr (4, [.ref q1, .int v0.2])), (q1, .inl (G.2.2.1, N, .inl v0.1))] (fun _ : Unit => some (.int res)) (fun _ => [(q0, .inr (4, [.ref q1, .int v0.2])), (q1, .inl (G.2.2.1, N, .inl v0.1))]) 0 0 := by
  refine zg_of (own := RX1) (cc := cX1_areDigits) (nL := 4) (ret := (some .boolean)) (by decide +kernel) rfl rfl (Nat.le_of_ble_eq_true rfl) (fun Z X hF => ?_)
  show zgGd G Z _ 0 0 4 _ 0 [(0, .ref q0), (1, .int a1), (2, .int a2)] []
  have hL2 : ∀ (n : Nat) (y2 : Int32) (y3 : Int32), zf_X1_areDigits_L2 fu N v0 n y2 y3 = some res → zgGd G Z ({ frames := 2, cells := 0, slots := 0, locals := 42 } : Room) 0 0 4 [(q0, .inr (4, [.ref q1, .int v0.2])), (q1, .inl (G.2.2.1, N, .inl v0.1))] 2 [(0, .ref q0), (2, .int y2), (3, .int y3)] [] := by
    intro n
    induction n with
    | zero =>
      intro y2 y3 hf
      rw [zf_X1_areDigits_L2] at hf
      cases hf
    | succ n2 ih2 =>
      intro y2 y3 hf
      rw [zf_X1_areDigits_L2] at hf
      refine zg_iload_n X dX1_areDigits_2 rfl 2 rfl ?_
      refine zg_iload_n X dX1_areDigits_3 rfl 1 rfl ?_
      refine zg_icmp_ge (tgt := 26) X dX1_areDigits_4 (by decide) (fun c1 => ?_) (fun c1 => ?_)
      · have hf := pl_t c1 hf
        refine zg_iconst (v := 1) X dX1_areDigits_26 (by decide) ?_
        have hf := Option.some.inj hf
        subst hf
        exact zg_iret X hF rfl rfl () rfl rfl (Nat.le_of_ble_eq_true rfl) (Nat.le_of_ble_eq_true rfl) dX1_areDigits_27
      · have hf := pl_f c1 hf
        refine zg_aload_n X dX1_areDigits_7 rfl 0 rfl ?_
        refine zg_iload_n X dX1_areDigits_8 rfl 2 rfl ?_
        obtain ⟨b2, hb2, hf⟩ := pl_b hf
        refine zg_cP1 X (zg_runV X (zc_X5_at G q0 q1 N v0 y3 fu b2 hb2) gX1_areDigits_X5_at rfl zh_X5_at ⟨rfl, rfl⟩ ⟨Nat.le_of_ble_eq_true rfl, Nat.le_of_ble_eq_true rfl⟩ rfl rfl rfl (Nat.le_of_ble_eq_true rfl) ⟨Nat.le_of_ble_eq_true rfl, Nat.le_of_ble_eq_true rfl⟩ [0, 1] (by decide) rfl rfl dX1_areDigits_9) rfl ?_
        obtain ⟨b3, hb3, hf⟩ := pl_b hf
        refine zg_cP1 X (zg_runS X (zc_X0_isDigit G b2 fu b3 hb3) gX1_areDigits_X0_isDigit rfl zh_X0_isDigit.2 ⟨rfl, rfl⟩ ⟨Nat.le_of_ble_eq_true rfl, Nat.le_of_ble_eq_true rfl⟩ rfl (Nat.le_of_ble_eq_true rfl) ⟨Nat.le_of_ble_eq_true rfl, Nat.le_of_ble_eq_true rfl⟩ [] (by decide) rfl rfl dX1_areDigits_12) rfl ?_
        refine zg_if_ne (tgt := 20) X dX1_areDigits_15 (by decide) (fun c4 => ?_) (fun c4 => ?_)
        · have hf := pl_f c4 hf
          obtain ⟨x5, ex5, hf⟩ := pl_l hf
          refine zg_iinc (v := x5) (L' := [(3, .int x5), (0, .ref q0), (2, .int y2)]) X dX1_areDigits_20 (j := 2) rfl (by rw [ex5]; rfl) (by decide) rfl ?_
          refine zg_goto (tgt := 2) X dX1_areDigits_23 (by decide) ?_
          refine zg_loc [1, 2, 0] rfl ?_
          exact ih2 y2 x5 hf
        · have hf := pl_t c4 hf
          refine zg_iconst (v := 0) X dX1_areDigits_18 (by decide) ?_
          have hf := Option.some.inj hf
          subst hf
          exact zg_iret X hF rfl rfl () rfl rfl (Nat.le_of_ble_eq_true rfl) (Nat.le_of_ble_eq_true rfl) dX1_areDigits_19
  unfold zf_X1_areDigits at hf
  refine zg_iload_n X dX1_areDigits_0 rfl 1 rfl ?_
  refine zg_istore_n (L' := [(3, .int a1), (0, .ref q0), (1, .int a1), (2, .int a2)]) X dX1_areDigits_1 rfl (by decide) rfl ?_
  refine zg_loc [1, 3, 0] rfl ?_
  exact hL2 fu a2 a1 hf
theorem zh_X1_find : yX1_find.cls = RX1 ∧ yX1_find.cls ≠ "java/lang/invoke/MethodHandle" ∧ yX1_find.cls ≠ "java/lang/invoke/VarHandle" ∧ (parseMethodDescriptor yX1_find.desc).map (fun d => d.parameters.length) = some 1 := by decide +kernel
set_option maxHeartbeats 8000000 in
set_option maxRecDepth 100000 in
theorem zc_X1_find (G : zgG) (q0 q1 q2 : Nat) (v0 : zRow) (a1 : Int32) (fu : Nat) (res : Int32) (hf : zf_X1_find fu v0 a1 = some res) : zgCt G yX1_find wsX1_find ({ frames := 3, cells := 0, slots := 0, locals := 64 } : Room) [.ref q0, .int a1] [(q0, .inr (0, [.ref q1])), (q1, .inr (4, [.ref q2, .int v0.2])), (q2, .inl (G.2.2.1, 20, .inl v0.1))] (fun _ : Unit => some (.int res)) (fun _ => [(q0, .inr (0, [.ref q1])), (q1, .inr (4, [.ref q2, .int v0.2])), (q2, .inl (G.2.2.1, 20, .inl v0.1))]) 0 0 := by
  have hw0 : Cond.fieldLink RX1 14 "TelexReceiver$Dictionary" "wordRow" "LTelexReceiver$Row;" ∈ wsX1_find := by decide +kernel
  have hiX1 : ∀ w ∈ u_ws RX1 TX1 1, w ∈ wsX1_find := by decide +kernel
  refine zg_of (own := RX1) (cc := cX1_find) (nL := 2) (ret := (some .int)) (by decide +kernel) rfl rfl (Nat.le_of_ble_eq_true rfl) (fun Z X hF => ?_)
  show zgGd G Z _ 0 0 2 _ 0 [(0, .ref q0), (1, .int a1)] []
  unfold zf_X1_find at hf
  refine zg_aload_n X dX1_find_0 rfl 0 rfl ?_
  refine zg_get (C := RX1) (T := TX1) (N := 1) X 0 0 hiX1 rfl rfl (by decide) hw0 rfl dX1_find_1 ?_
  refine zg_iload_n X dX1_find_4 rfl 1 rfl ?_
  obtain ⟨b1, hb1, hf⟩ := pl_b hf
  refine zg_cP1 X (zg_runV X (zc_X5_find G q1 q2 20 v0 a1 fu b1 hb1) gX1_find_X5_find rfl zh_X5_find ⟨rfl, rfl⟩ ⟨Nat.le_of_ble_eq_true rfl, Nat.le_of_ble_eq_true rfl⟩ rfl rfl rfl (Nat.le_of_ble_eq_true rfl) ⟨Nat.le_of_ble_eq_true rfl, Nat.le_of_ble_eq_true rfl⟩ [1, 2] (by decide) rfl rfl dX1_find_5) rfl ?_
  have hf := Option.some.inj hf
  subst hf
  exact zg_iret X hF rfl rfl () rfl rfl (Nat.le_of_ble_eq_true rfl) (Nat.le_of_ble_eq_true rfl) dX1_find_8
theorem zh_X1_findSegment : yX1_findSegment.cls = RX1 ∧ yX1_findSegment.cls ≠ "java/lang/invoke/MethodHandle" ∧ yX1_findSegment.cls ≠ "java/lang/invoke/VarHandle" ∧ (parseMethodDescriptor yX1_findSegment.desc).map (fun d => d.parameters.length) = some 3 := by decide +kernel
set_option maxHeartbeats 8000000 in
set_option maxRecDepth 100000 in
theorem zc_X1_findSegment (G : zgG) (q0 q1 q2 q3 q4 : Nat) (N : Nat) (v0 : zRow) (v1 : zRow) (a2 : Int32) (a3 : Int32) (fu : Nat) (res : Int32) (hf : zf_X1_findSegment fu N v0 v1 a2 a3 = some res) : zgCt G yX1_findSegment wsX1_findSegment ({ frames := 4, cells := 0, slots := 0, locals := 85 } : Room) [.ref q0, .ref q3, .int a2, .int a3] [(q0, .inr (0, [.ref q1])), (q1, .inr (4, [.ref q2, .int v0.2])), (q2, .inl (G.2.2.1, 20, .inl v0.1)), (q3, .inr (4, [.ref q4, .int v1.2])), (q4, .inl (G.2.2.1, N, .inl v1.1))] (fun _ : Unit => some (.int res)) (fun _ => [(q0, .inr (0, [.ref q1])), (q1, .inr (4, [.ref q2, .int v0.2])), (q2, .inl (G.2.2.1, 20, .inl v0.1)), (q3, .inr (4, [.ref q4, .int v1.2])), (q4, .inl (G.2.2.1, N, .inl v1.1))]) 0 0 := by
  refine zg_of (own := RX1) (cc := cX1_findSegment) (nL := 4) (ret := (some .int)) (by decide +kernel) rfl rfl (Nat.le_of_ble_eq_true rfl) (fun Z X hF => ?_)
  show zgGd G Z _ 0 0 4 _ 0 [(0, .ref q0), (1, .ref q3), (2, .int a2), (3, .int a3)] []
  unfold zf_X1_findSegment at hf
  refine zg_aload_n X dX1_findSegment_0 rfl 0 rfl ?_
  refine zg_aload_n X dX1_findSegment_1 rfl 1 rfl ?_
  refine zg_iload_n X dX1_findSegment_2 rfl 2 rfl ?_
  refine zg_iload_n X dX1_findSegment_3 rfl 3 rfl ?_
  obtain ⟨b1, hb1, hf⟩ := pl_b hf
  refine zg_cP1 X (zg_runS X (zc_X1_wordOfCodes G q3 q4 N v1 a2 a3 fu b1 hb1) gX1_findSegment_X1_wordOfCodes rfl zh_X1_wordOfCodes.2 ⟨rfl, rfl⟩ ⟨Nat.le_of_ble_eq_true rfl, Nat.le_of_ble_eq_true rfl⟩ rfl (Nat.le_of_ble_eq_true rfl) ⟨Nat.le_of_ble_eq_true rfl, Nat.le_of_ble_eq_true rfl⟩ [3, 4] (by decide) rfl rfl dX1_findSegment_4) rfl ?_
  obtain ⟨b2, hb2, hf⟩ := pl_b hf
  refine zg_cP1 X (zg_runV X (zc_X1_find G q0 q1 q2 v0 b1 fu b2 hb2) gX1_findSegment_X1_find rfl zh_X1_find ⟨rfl, rfl⟩ ⟨Nat.le_of_ble_eq_true rfl, Nat.le_of_ble_eq_true rfl⟩ rfl rfl rfl (Nat.le_of_ble_eq_true rfl) ⟨Nat.le_of_ble_eq_true rfl, Nat.le_of_ble_eq_true rfl⟩ [0, 1, 2] (by decide) rfl rfl dX1_findSegment_7) rfl ?_
  have hf := Option.some.inj hf
  subst hf
  exact zg_iret X hF rfl rfl () rfl rfl (Nat.le_of_ble_eq_true rfl) (Nat.le_of_ble_eq_true rfl) dX1_findSegment_10
theorem zh_X1_codeOfLetter : yX1_codeOfLetter.cls = RX1 ∧ yX1_codeOfLetter.cls ≠ "java/lang/invoke/MethodHandle" ∧ yX1_codeOfLetter.cls ≠ "java/lang/invoke/VarHandle" ∧ (parseMethodDescriptor yX1_codeOfLetter.desc).map (fun d => d.parameters.length) = some 2 := by decide +kernel
set_option maxHeartbeats 8000000 in
set_option maxRecDepth 100000 in
theorem zc_X1_codeOfLetter (G : zgG) (q0 q1 q2 : Nat) (v0 : zRow) (a1 : Int32) (a2 : Int32) (fu : Nat) (res : Int32) (hf : zf_X1_codeOfLetter fu v0 a1 a2 = some res) : zgCt G yX1_codeOfLetter wsX1_codeOfLetter ({ frames := 2, cells := 0, slots := 0, locals := 42 } : Room) [.ref q0, .int a1, .int a2] [(q0, .inr (0, [.ref q1])), (q1, .inr (4, [.ref q2, .int v0.2])), (q2, .inl (G.2.2.1, 20, .inl v0.1))] (fun _ : Unit => some (.int res)) (fun _ => [(q0, .inr (0, [.ref q1])), (q1, .inr (4, [.ref q2, .int v0.2])), (q2, .inl (G.2.2.1, 20, .inl v0.1))]) 0 0 := by
  have hw0 : Cond.fieldLink RX1 14 "TelexReceiver$Dictionary" "wordRow" "LTelexReceiver$Row;" ∈ wsX1_codeOfLetter := by decide +kernel
  have hiX1 : ∀ w ∈ u_ws RX1 TX1 1, w ∈ wsX1_codeOfLetter := by decide +kernel
  refine zg_of (own := RX1) (cc := cX1_codeOfLetter) (nL := 3) (ret := (some .int)) (by decide +kernel) rfl rfl (Nat.le_of_ble_eq_true rfl) (fun Z X hF => ?_)
  show zgGd G Z _ 0 0 3 _ 0 [(0, .ref q0), (1, .int a1), (2, .int a2)] []
  unfold zf_X1_codeOfLetter at hf
  refine zg_aload_n X dX1_codeOfLetter_0 rfl 0 rfl ?_
  refine zg_get (C := RX1) (T := TX1) (N := 1) X 0 0 hiX1 rfl rfl (by decide) hw0 rfl dX1_codeOfLetter_1 ?_
  refine zg_iload_n X dX1_codeOfLetter_4 rfl 1 rfl ?_
  obtain ⟨b1, hb1, hf⟩ := pl_b hf
  refine zg_cP1 X (zg_runV X (zc_X5_at G q1 q2 20 v0 a1 fu b1 hb1) gX1_codeOfLetter_X5_at rfl zh_X5_at ⟨rfl, rfl⟩ ⟨Nat.le_of_ble_eq_true rfl, Nat.le_of_ble_eq_true rfl⟩ rfl rfl rfl (Nat.le_of_ble_eq_true rfl) ⟨Nat.le_of_ble_eq_true rfl, Nat.le_of_ble_eq_true rfl⟩ [1, 2] (by decide) rfl rfl dX1_codeOfLetter_5) rfl ?_
  refine zg_iconst (v := 5) X dX1_codeOfLetter_8 (by decide) ?_
  refine zg_iload_n X dX1_codeOfLetter_9 rfl 2 rfl ?_
  refine zg_imul X dX1_codeOfLetter_10 ?_
  refine zg_ishr X dX1_codeOfLetter_11 ?_
  refine zg_bipush (v := 31) X dX1_codeOfLetter_12 (by decide) ?_
  refine zg_iand X dX1_codeOfLetter_14 ?_
  obtain ⟨x2, ex2, hf⟩ := pl_l hf
  refine zg_topi ex2 ?_
  have hf := Option.some.inj hf
  subst hf
  exact zg_iret X hF rfl rfl () rfl rfl (Nat.le_of_ble_eq_true rfl) (Nat.le_of_ble_eq_true rfl) dX1_codeOfLetter_15
theorem zh_X1_lengthOf : yX1_lengthOf.cls = RX1 ∧ yX1_lengthOf.cls ≠ "java/lang/invoke/MethodHandle" ∧ yX1_lengthOf.cls ≠ "java/lang/invoke/VarHandle" ∧ (parseMethodDescriptor yX1_lengthOf.desc).map (fun d => d.parameters.length) = some 1 := by decide +kernel
set_option maxHeartbeats 8000000 in
set_option maxRecDepth 100000 in
theorem zc_X1_lengthOf (G : zgG) (q0 q1 q2 : Nat) (v0 : zRow) (a1 : Int32) (fu : Nat) (res : Int32) (hf : zf_X1_lengthOf fu v0 a1 = some res) : zgCt G yX1_lengthOf wsX1_lengthOf ({ frames := 3, cells := 0, slots := 0, locals := 64 } : Room) [.ref q0, .int a1] [(q0, .inr (0, [.ref q1])), (q1, .inr (4, [.ref q2, .int v0.2])), (q2, .inl (G.2.2.1, 20, .inl v0.1))] (fun _ : Unit => some (.int res)) (fun _ => [(q0, .inr (0, [.ref q1])), (q1, .inr (4, [.ref q2, .int v0.2])), (q2, .inl (G.2.2.1, 20, .inl v0.1))]) 0 0 := by
  refine zg_of (own := RX1) (cc := cX1_lengthOf) (nL := 4) (ret := (some .int)) (by decide +kernel) rfl rfl (Nat.le_of_ble_eq_true rfl) (fun Z X hF => ?_)
  show zgGd G Z _ 0 0 4 _ 0 [(0, .ref q0), (1, .int a1)] []
  have hL4 : ∀ (n : Nat) (y1 : Int32) (y2 : Int32) (y3 : Int32), zf_X1_lengthOf_L4 fu v0 n y1 y2 y3 = some res → zgGd G Z ({ frames := 3, cells := 0, slots := 0, locals := 64 } : Room) 0 0 4 [(q0, .inr (0, [.ref q1])), (q1, .inr (4, [.ref q2, .int v0.2])), (q2, .inl (G.2.2.1, 20, .inl v0.1))] 4 [(0, .ref q0), (1, .int y1), (2, .int y2), (3, .int y3)] [] := by
    intro n
    induction n with
    | zero =>
      intro y1 y2 y3 hf
      rw [zf_X1_lengthOf_L4] at hf
      cases hf
    | succ n4 ih4 =>
      have hb22 : ∀ (y1 : Int32) (y2 : Int32) (y3 : Int32), zf_X1_lengthOf_b22 fu v0 (zf_X1_lengthOf_L4 fu v0 n4) y1 y2 y3 = some res → zgGd G Z ({ frames := 3, cells := 0, slots := 0, locals := 64 } : Room) 0 0 4 [(q0, .inr (0, [.ref q1])), (q1, .inr (4, [.ref q2, .int v0.2])), (q2, .inl (G.2.2.1, 20, .inl v0.1))] 22 [(0, .ref q0), (1, .int y1), (2, .int y2), (3, .int y3)] [] := by
        intro y1 y2 y3 hf
        unfold zf_X1_lengthOf_b22 at hf
        obtain ⟨x5, ex5, hf⟩ := pl_l hf
        refine zg_iinc (v := x5) (L' := [(3, .int x5), (0, .ref q0), (1, .int y1), (2, .int y2)]) X dX1_lengthOf_22 (j := 3) rfl (by rw [ex5]; rfl) (by decide) rfl ?_
        refine zg_goto (tgt := 4) X dX1_lengthOf_25 (by decide) ?_
        refine zg_loc [1, 2, 3, 0] rfl ?_
        exact ih4 y1 y2 x5 hf
      intro y1 y2 y3 hf
      rw [zf_X1_lengthOf_L4] at hf
      refine zg_iload_n X dX1_lengthOf_4 rfl 3 rfl ?_
      refine zg_bipush (v := 6) X dX1_lengthOf_5 (by decide) ?_
      refine zg_icmp_ge (tgt := 28) X dX1_lengthOf_7 (by decide) (fun c1 => ?_) (fun c1 => ?_)
      · have hf := pl_t c1 hf
        refine zg_iload_n X dX1_lengthOf_28 rfl 2 rfl ?_
        have hf := Option.some.inj hf
        subst hf
        exact zg_iret X hF rfl rfl () rfl rfl (Nat.le_of_ble_eq_true rfl) (Nat.le_of_ble_eq_true rfl) dX1_lengthOf_29
      · have hf := pl_f c1 hf
        refine zg_aload_n X dX1_lengthOf_10 rfl 0 rfl ?_
        refine zg_iload_n X dX1_lengthOf_11 rfl 1 rfl ?_
        refine zg_iload_n X dX1_lengthOf_12 rfl 3 rfl ?_
        obtain ⟨b2, hb2, hf⟩ := pl_b hf
        refine zg_cP1 X (zg_runV X (zc_X1_codeOfLetter G q0 q1 q2 v0 y1 y3 fu b2 hb2) gX1_lengthOf_X1_codeOfLetter rfl zh_X1_codeOfLetter ⟨rfl, rfl⟩ ⟨Nat.le_of_ble_eq_true rfl, Nat.le_of_ble_eq_true rfl⟩ rfl rfl rfl (Nat.le_of_ble_eq_true rfl) ⟨Nat.le_of_ble_eq_true rfl, Nat.le_of_ble_eq_true rfl⟩ [0, 1, 2] (by decide) rfl rfl dX1_lengthOf_13) rfl ?_
        refine zg_if_eq (tgt := 22) X dX1_lengthOf_16 (by decide) (fun c3 => ?_) (fun c3 => ?_)
        · have hf := pl_t c3 hf
          exact hb22 y1 y2 y3 hf
        · have hf := pl_f c3 hf
          obtain ⟨x4, ex4, hf⟩ := pl_l hf
          refine zg_iinc (v := x4) (L' := [(2, .int x4), (0, .ref q0), (1, .int y1), (3, .int y3)]) X dX1_lengthOf_19 (j := 2) rfl (by rw [ex4]; rfl) (by decide) rfl ?_
          refine zg_loc [1, 2, 0, 3] rfl ?_
          exact hb22 y1 x4 y3 hf
  unfold zf_X1_lengthOf at hf
  refine zg_iconst (v := 0) X dX1_lengthOf_0 (by decide) ?_
  refine zg_istore_n (L' := [(2, .int 0), (0, .ref q0), (1, .int a1)]) X dX1_lengthOf_1 rfl (by decide) rfl ?_
  refine zg_iconst (v := 0) X dX1_lengthOf_2 (by decide) ?_
  refine zg_istore_n (L' := [(3, .int 0), (2, .int 0), (0, .ref q0), (1, .int a1)]) X dX1_lengthOf_3 rfl (by decide) rfl ?_
  refine zg_loc [2, 3, 1, 0] rfl ?_
  exact hL4 fu a1 0 0 hf
theorem zh_X1_isPlausible : yX1_isPlausible.cls = RX1 ∧ yX1_isPlausible.cls ≠ "java/lang/invoke/MethodHandle" ∧ yX1_isPlausible.cls ≠ "java/lang/invoke/VarHandle" ∧ (parseMethodDescriptor yX1_isPlausible.desc).map (fun d => d.parameters.length) = some 4 := by decide +kernel
set_option maxHeartbeats 8000000 in
set_option maxRecDepth 100000 in
theorem zc_X1_isPlausible (G : zgG) (q0 q1 q2 q3 q4 : Nat) (N : Nat) (v0 : zRow) (v1 : zRow) (a2 : Int32) (a3 : Int32) (a4 : Int32) (fu : Nat) (res : Int32) (hf : zf_X1_isPlausible fu N v0 v1 a2 a3 a4 = some res) : zgCt G yX1_isPlausible wsX1_isPlausible ({ frames := 5, cells := 0, slots := 0, locals := 108 } : Room) [.ref q0, .ref q3, .int a2, .int a3, .int a4] [(q0, .inr (0, [.ref q1])), (q1, .inr (4, [.ref q2, .int v0.2])), (q2, .inl (G.2.2.1, 20, .inl v0.1)), (q3, .inr (4, [.ref q4, .int v1.2])), (q4, .inl (G.2.2.1, N, .inl v1.1))] (fun _ : Unit => some (.int res)) (fun _ => [(q0, .inr (0, [.ref q1])), (q1, .inr (4, [.ref q2, .int v0.2])), (q2, .inl (G.2.2.1, 20, .inl v0.1)), (q3, .inr (4, [.ref q4, .int v1.2])), (q4, .inl (G.2.2.1, N, .inl v1.1))]) 0 0 := by
  refine zg_of (own := RX1) (cc := cX1_isPlausible) (nL := 5) (ret := (some .boolean)) (by decide +kernel) rfl rfl (Nat.le_of_ble_eq_true rfl) (fun Z X hF => ?_)
  show zgGd G Z _ 0 0 5 _ 0 [(0, .ref q0), (1, .ref q3), (2, .int a2), (3, .int a3), (4, .int a4)] []
  unfold zf_X1_isPlausible at hf
  refine zg_iload X dX1_isPlausible_0 4 rfl ?_
  refine zg_if_ne (tgt := 24) X dX1_isPlausible_2 (by decide) (fun c1 => ?_) (fun c1 => ?_)
  · have hf := pl_f c1 hf
    refine zg_aload_n X dX1_isPlausible_24 rfl 1 rfl ?_
    refine zg_iload_n X dX1_isPlausible_25 rfl 2 rfl ?_
    refine zg_iload_n X dX1_isPlausible_26 rfl 3 rfl ?_
    obtain ⟨b2, hb2, hf⟩ := pl_b hf
    refine zg_cP1 X (zg_runS X (zc_X1_areDigits G q3 q4 N v1 a2 a3 fu b2 hb2) gX1_isPlausible_X1_areDigits rfl zh_X1_areDigits.2 ⟨rfl, rfl⟩ ⟨Nat.le_of_ble_eq_true rfl, Nat.le_of_ble_eq_true rfl⟩ rfl (Nat.le_of_ble_eq_true rfl) ⟨Nat.le_of_ble_eq_true rfl, Nat.le_of_ble_eq_true rfl⟩ [3, 4] (by decide) rfl rfl dX1_isPlausible_27) rfl ?_
    obtain ⟨hb3, hf⟩ := pl_o hf
    have hf := Option.some.inj hf
    subst hf
    exact zg_iret X hF rfl (pl_nz hb3) () rfl rfl (Nat.le_of_ble_eq_true rfl) (Nat.le_of_ble_eq_true rfl) dX1_isPlausible_30
  · have hf := pl_t c1 hf
    refine zg_aload_n X dX1_isPlausible_5 rfl 0 rfl ?_
    refine zg_aload_n X dX1_isPlausible_6 rfl 1 rfl ?_
    refine zg_iload_n X dX1_isPlausible_7 rfl 2 rfl ?_
    refine zg_iload_n X dX1_isPlausible_8 rfl 3 rfl ?_
    obtain ⟨b4, hb4, hf⟩ := pl_b hf
    refine zg_cP1 X (zg_runV X (zc_X1_findSegment G q0 q1 q2 q3 q4 N v0 v1 a2 a3 fu b4 hb4) gX1_isPlausible_X1_findSegment rfl zh_X1_findSegment ⟨rfl, rfl⟩ ⟨Nat.le_of_ble_eq_true rfl, Nat.le_of_ble_eq_true rfl⟩ rfl rfl rfl (Nat.le_of_ble_eq_true rfl) ⟨Nat.le_of_ble_eq_true rfl, Nat.le_of_ble_eq_true rfl⟩ [0, 1, 2, 3, 4] (by decide) rfl rfl dX1_isPlausible_9) rfl ?_
    refine zg_iconst (v := (-1)) X dX1_isPlausible_12 (by decide) ?_
    refine zg_icmp_eq (tgt := 20) X dX1_isPlausible_13 (by decide) (fun c5 => ?_) (fun c5 => ?_)
    · have hf := pl_t c5 hf
      refine zg_iconst (v := 0) X dX1_isPlausible_20 (by decide) ?_
      refine zg_goto (tgt := 30) X dX1_isPlausible_21 (by decide) ?_
      have hf := Option.some.inj hf
      subst hf
      exact zg_iret X hF rfl rfl () rfl rfl (Nat.le_of_ble_eq_true rfl) (Nat.le_of_ble_eq_true rfl) dX1_isPlausible_30
    · have hf := pl_f c5 hf
      refine zg_iconst (v := 1) X dX1_isPlausible_16 (by decide) ?_
      refine zg_goto (tgt := 30) X dX1_isPlausible_17 (by decide) ?_
      have hf := Option.some.inj hf
      subst hf
      exact zg_iret X hF rfl rfl () rfl rfl (Nat.le_of_ble_eq_true rfl) (Nat.le_of_ble_eq_true rfl) dX1_isPlausible_30
theorem zh_X1_kindOf : yX1_kindOf.cls = RX1 ∧ yX1_kindOf.cls ≠ "java/lang/invoke/MethodHandle" ∧ yX1_kindOf.cls ≠ "java/lang/invoke/VarHandle" ∧ (parseMethodDescriptor yX1_kindOf.desc).map (fun d => d.parameters.length) = some 4 := by decide +kernel
set_option maxHeartbeats 8000000 in
set_option maxRecDepth 100000 in
theorem zc_X1_kindOf (G : zgG) (q0 q1 q2 q3 q4 : Nat) (N : Nat) (v0 : zRow) (v1 : zRow) (a2 : Int32) (a3 : Int32) (a4 : Int32) (fu : Nat) (res : Int32) (hf : zf_X1_kindOf fu N v0 v1 a2 a3 a4 = some res) : zgCt G yX1_kindOf wsX1_kindOf ({ frames := 6, cells := 0, slots := 0, locals := 132 } : Room) [.ref q0, .ref q3, .int a2, .int a3, .int a4] [(q0, .inr (0, [.ref q1])), (q1, .inr (4, [.ref q2, .int v0.2])), (q2, .inl (G.2.2.1, 20, .inl v0.1)), (q3, .inr (4, [.ref q4, .int v1.2])), (q4, .inl (G.2.2.1, N, .inl v1.1))] (fun _ : Unit => some (.int res)) (fun _ => [(q0, .inr (0, [.ref q1])), (q1, .inr (4, [.ref q2, .int v0.2])), (q2, .inl (G.2.2.1, 20, .inl v0.1)), (q3, .inr (4, [.ref q4, .int v1.2])), (q4, .inl (G.2.2.1, N, .inl v1.1))]) 0 0 := by
  refine zg_of (own := RX1) (cc := cX1_kindOf) (nL := 6) (ret := (some .int)) (by decide +kernel) rfl rfl (Nat.le_of_ble_eq_true rfl) (fun Z X hF => ?_)
  show zgGd G Z _ 0 0 6 _ 0 [(0, .ref q0), (1, .ref q3), (2, .int a2), (3, .int a3), (4, .int a4)] []
  have hb25 : ∀ (y2 : Int32) (y3 : Int32) (y4 : Int32) (z0 : Int32), zf_X1_kindOf_b25 fu N v0 v1 y2 y3 y4 z0 = some res → zgGd G Z ({ frames := 6, cells := 0, slots := 0, locals := 132 } : Room) 0 0 6 [(q0, .inr (0, [.ref q1])), (q1, .inr (4, [.ref q2, .int v0.2])), (q2, .inl (G.2.2.1, 20, .inl v0.1)), (q3, .inr (4, [.ref q4, .int v1.2])), (q4, .inl (G.2.2.1, N, .inl v1.1))] 25 [(0, .ref q0), (1, .ref q3), (2, .int y2), (3, .int y3), (4, .int y4)] [.int z0] := by
    intro y2 y3 y4 z0 hf
    unfold zf_X1_kindOf_b25 at hf
    refine zg_istore (L' := [(5, .int z0), (0, .ref q0), (1, .ref q3), (2, .int y2), (3, .int y3), (4, .int y4)]) X dX1_kindOf_25 (by decide) rfl ?_
    refine zg_aload_n X dX1_kindOf_27 rfl 1 rfl ?_
    refine zg_aload_n X dX1_kindOf_28 rfl 2 rfl ?_
    refine zg_iload_n X dX1_kindOf_29 rfl 3 rfl ?_
    refine zg_iload_n X dX1_kindOf_30 rfl 4 rfl ?_
    refine zg_iload X dX1_kindOf_31 0 rfl ?_
    obtain ⟨b4, hb4, hf⟩ := pl_b hf
    refine zg_cP1 X (zg_runV X (zc_X1_isPlausible G q0 q1 q2 q3 q4 N v0 v1 y2 y3 z0 fu b4 hb4) gX1_kindOf_X1_isPlausible rfl zh_X1_isPlausible ⟨rfl, rfl⟩ ⟨Nat.le_of_ble_eq_true rfl, Nat.le_of_ble_eq_true rfl⟩ rfl rfl rfl (Nat.le_of_ble_eq_true rfl) ⟨Nat.le_of_ble_eq_true rfl, Nat.le_of_ble_eq_true rfl⟩ [0, 1, 2, 3, 4] (by decide) rfl rfl dX1_kindOf_33) rfl ?_
    refine zg_if_eq (tgt := 44) X dX1_kindOf_36 (by decide) (fun c5 => ?_) (fun c5 => ?_)
    · have hf := pl_t c5 hf
      refine zg_iload X dX1_kindOf_44 5 rfl ?_
      refine zg_iconst (v := 4) X dX1_kindOf_46 (by decide) ?_
      refine zg_iadd X dX1_kindOf_47 ?_
      obtain ⟨x6, ex6, hf⟩ := pl_l hf
      refine zg_topi ex6 ?_
      have hf := Option.some.inj hf
      subst hf
      exact zg_iret X hF rfl rfl () rfl rfl (Nat.le_of_ble_eq_true rfl) (Nat.le_of_ble_eq_true rfl) dX1_kindOf_48
    · have hf := pl_f c5 hf
      refine zg_iload X dX1_kindOf_39 0 rfl ?_
      refine zg_iconst (v := 2) X dX1_kindOf_41 (by decide) ?_
      refine zg_iadd X dX1_kindOf_42 ?_
      obtain ⟨x7, ex7, hf⟩ := pl_l hf
      refine zg_topi ex7 ?_
      have hf := Option.some.inj hf
      subst hf
      exact zg_iret X hF rfl rfl () rfl rfl (Nat.le_of_ble_eq_true rfl) (Nat.le_of_ble_eq_true rfl) dX1_kindOf_43
  unfold zf_X1_kindOf at hf
  refine zg_aload_n X dX1_kindOf_0 rfl 0 rfl ?_
  refine zg_aload_n X dX1_kindOf_1 rfl 1 rfl ?_
  refine zg_iload_n X dX1_kindOf_2 rfl 2 rfl ?_
  refine zg_iload_n X dX1_kindOf_3 rfl 3 rfl ?_
  refine zg_iload X dX1_kindOf_4 4 rfl ?_
  obtain ⟨b1, hb1, hf⟩ := pl_b hf
  refine zg_cP1 X (zg_runV X (zc_X1_isPlausible G q0 q1 q2 q3 q4 N v0 v1 a2 a3 a4 fu b1 hb1) gX1_kindOf_X1_isPlausible rfl zh_X1_isPlausible ⟨rfl, rfl⟩ ⟨Nat.le_of_ble_eq_true rfl, Nat.le_of_ble_eq_true rfl⟩ rfl rfl rfl (Nat.le_of_ble_eq_true rfl) ⟨Nat.le_of_ble_eq_true rfl, Nat.le_of_ble_eq_true rfl⟩ [0, 1, 2, 3, 4] (by decide) rfl rfl dX1_kindOf_6) rfl ?_
  refine zg_if_eq (tgt := 15) X dX1_kindOf_9 (by decide) (fun c2 => ?_) (fun c2 => ?_)
  · have hf := pl_t c2 hf
    refine zg_iload X dX1_kindOf_15 4 rfl ?_
    refine zg_if_ne (tgt := 24) X dX1_kindOf_17 (by decide) (fun c3 => ?_) (fun c3 => ?_)
    · have hf := pl_f c3 hf
      refine zg_iconst (v := 0) X dX1_kindOf_24 (by decide) ?_
      exact hb25 a2 a3 a4 0 hf
    · have hf := pl_t c3 hf
      refine zg_iconst (v := 1) X dX1_kindOf_20 (by decide) ?_
      refine zg_goto (tgt := 25) X dX1_kindOf_21 (by decide) ?_
      exact hb25 a2 a3 a4 1 hf
  · have hf := pl_f c2 hf
    refine zg_iload X dX1_kindOf_12 4 rfl ?_
    have hf := Option.some.inj hf
    subst hf
    exact zg_iret X hF rfl rfl () rfl rfl (Nat.le_of_ble_eq_true rfl) (Nat.le_of_ble_eq_true rfl) dX1_kindOf_14
theorem zh_X1_shiftOfKind : yX1_shiftOfKind.cls = RX1 ∧ yX1_shiftOfKind.cls ≠ "java/lang/invoke/MethodHandle" ∧ yX1_shiftOfKind.cls ≠ "java/lang/invoke/VarHandle" ∧ (parseMethodDescriptor yX1_shiftOfKind.desc).map (fun d => d.parameters.length) = some 1 := by decide +kernel
set_option maxHeartbeats 8000000 in
set_option maxRecDepth 100000 in
theorem zc_X1_shiftOfKind (G : zgG) (a0 : Int32) (fu : Nat) (res : Int32) (hf : zf_X1_shiftOfKind fu a0 = some res) : zgCt G yX1_shiftOfKind wsX1_shiftOfKind ({ frames := 0, cells := 0, slots := 0, locals := 0 } : Room) [.int a0] [] (fun _ : Unit => some (.int res)) (fun _ => []) 0 0 := by
  refine zg_of (own := RX1) (cc := cX1_shiftOfKind) (nL := 1) (ret := (some .int)) (by decide +kernel) rfl rfl (Nat.le_of_ble_eq_true rfl) (fun Z X hF => ?_)
  show zgGd G Z _ 0 0 1 _ 0 [(0, .int a0)] []
  unfold zf_X1_shiftOfKind at hf
  refine zg_iload_n X dX1_shiftOfKind_0 rfl 0 rfl ?_
  refine zg_iconst (v := 1) X dX1_shiftOfKind_1 (by decide) ?_
  refine zg_iand X dX1_shiftOfKind_2 ?_
  obtain ⟨x1, ex1, hf⟩ := pl_l hf
  refine zg_topi ex1 ?_
  have hf := Option.some.inj hf
  subst hf
  exact zg_iret X hF rfl rfl () rfl rfl (Nat.le_of_ble_eq_true rfl) (Nat.le_of_ble_eq_true rfl) dX1_shiftOfKind_3
theorem zh_X1_doubtOf : yX1_doubtOf.cls = RX1 ∧ yX1_doubtOf.cls ≠ "java/lang/invoke/MethodHandle" ∧ yX1_doubtOf.cls ≠ "java/lang/invoke/VarHandle" ∧ (parseMethodDescriptor yX1_doubtOf.desc).map (fun d => d.parameters.length) = some 3 := by decide +kernel
set_option maxHeartbeats 8000000 in
set_option maxRecDepth 100000 in
theorem zc_X1_doubtOf (G : zgG) (q0 q1 q2 q3 q4 : Nat) (N : Nat) (v0 : zRow) (v1 : zRow) (a2 : Int32) (a3 : Int32) (fu : Nat) (res : Int32) (hf : zf_X1_doubtOf fu N v0 v1 a2 a3 = some res) : zgCt G yX1_doubtOf wsX1_doubtOf ({ frames := 7, cells := 0, slots := 0, locals := 157 } : Room) [.ref q0, .ref q3, .int a2, .int a3] [(q0, .inr (0, [.ref q1])), (q1, .inr (4, [.ref q2, .int v0.2])), (q2, .inl (G.2.2.1, 20, .inl v0.1)), (q3, .inr (4, [.ref q4, .int v1.2])), (q4, .inl (G.2.2.1, N, .inl v1.1))] (fun _ : Unit => some (.int res)) (fun _ => [(q0, .inr (0, [.ref q1])), (q1, .inr (4, [.ref q2, .int v0.2])), (q2, .inl (G.2.2.1, 20, .inl v0.1)), (q3, .inr (4, [.ref q4, .int v1.2])), (q4, .inl (G.2.2.1, N, .inl v1.1))]) 0 0 := by
  refine zg_of (own := RX1) (cc := cX1_doubtOf) (nL := 4) (ret := (some .int)) (by decide +kernel) rfl rfl (Nat.le_of_ble_eq_true rfl) (fun Z X hF => ?_)
  show zgGd G Z _ 0 0 4 _ 0 [(0, .ref q0), (1, .ref q3), (2, .int a2), (3, .int a3)] []
  unfold zf_X1_doubtOf at hf
  refine zg_aload_n X dX1_doubtOf_0 rfl 0 rfl ?_
  refine zg_aload_n X dX1_doubtOf_1 rfl 1 rfl ?_
  refine zg_iload_n X dX1_doubtOf_2 rfl 2 rfl ?_
  refine zg_iload_n X dX1_doubtOf_3 rfl 3 rfl ?_
  refine zg_iconst (v := 0) X dX1_doubtOf_4 (by decide) ?_
  obtain ⟨b1, hb1, hf⟩ := pl_b hf
  refine zg_cP1 X (zg_runV X (zc_X1_kindOf G q0 q1 q2 q3 q4 N v0 v1 a2 a3 0 fu b1 hb1) gX1_doubtOf_X1_kindOf rfl zh_X1_kindOf ⟨rfl, rfl⟩ ⟨Nat.le_of_ble_eq_true rfl, Nat.le_of_ble_eq_true rfl⟩ rfl rfl rfl (Nat.le_of_ble_eq_true rfl) ⟨Nat.le_of_ble_eq_true rfl, Nat.le_of_ble_eq_true rfl⟩ [0, 1, 2, 3, 4] (by decide) rfl rfl dX1_doubtOf_5) rfl ?_
  refine zg_iconst (v := 4) X dX1_doubtOf_8 (by decide) ?_
  refine zg_icmp_lt (tgt := 16) X dX1_doubtOf_9 (by decide) (fun c2 => ?_) (fun c2 => ?_)
  · have hf := pl_t c2 hf
    refine zg_iconst (v := 0) X dX1_doubtOf_16 (by decide) ?_
    have hf := Option.some.inj hf
    subst hf
    exact zg_iret X hF rfl rfl () rfl rfl (Nat.le_of_ble_eq_true rfl) (Nat.le_of_ble_eq_true rfl) dX1_doubtOf_17
  · have hf := pl_f c2 hf
    refine zg_iconst (v := 1) X dX1_doubtOf_12 (by decide) ?_
    refine zg_goto (tgt := 17) X dX1_doubtOf_13 (by decide) ?_
    have hf := Option.some.inj hf
    subst hf
    exact zg_iret X hF rfl rfl () rfl rfl (Nat.le_of_ble_eq_true rfl) (Nat.le_of_ble_eq_true rfl) dX1_doubtOf_17
