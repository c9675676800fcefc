theorem zh_X1_wordOfCharacters : yX1_wordOfCharacters.cls = RX1 ∧ yX1_wordOfCharacters.cls ≠ "java/lang/invoke/MethodHandle" ∧ yX1_wordOfCharacters.cls ≠ "java/lang/invoke/VarHandle" ∧ (parseMethodDescriptor yX1_wordOfCharacters.desc).map (fun d => d.parameters.length) = some 1 := by decide +kernel
set_option maxHeartbeats 8000000 in
set_option maxRecDepth 100000 in
theorem zc_X1_wordOfCharacters (G : zgG) (q0 q1 : Nat) (N : Nat) (v0 : zRow) (fu : Nat) (res : Int32) (hf : zf_X1_wordOfCharacters fu N v0 = some res) : zgCt G yX1_wordOfCharacters wsX1_wordOfCharacters ({ frames := 6, cells := 0, slots := 0, locals := 132 } : Room) [.ref q0] [(q0, .inr (4, [.ref q1, .int v0.2])), (q1, .inl (G.2.2.1, N, .inl v0.1))] (fun _ : Unit => some (.int res)) (fun _ => [(q0, .inr (4, [.ref q1, .int v0.2])), (q1, .inl (G.2.2.1, N, .inl v0.1))]) 0 0 := by
  refine zg_of (own := RX1) (cc := cX1_wordOfCharacters) (nL := 3) (ret := (some .int)) (by decide +kernel) rfl rfl (Nat.le_of_ble_eq_true rfl) (fun Z X hF => ?_)
  show zgGd G Z _ 0 0 3 _ 0 [(0, .ref q0)] []
  have hL15 : ∀ (n : Nat) (y1 : Int32) (y2 : Int32), zf_X1_wordOfCharacters_L15 fu N v0 n y1 y2 = some res → zgGd G Z ({ frames := 6, cells := 0, slots := 0, locals := 132 } : Room) 0 0 3 [(q0, .inr (4, [.ref q1, .int v0.2])), (q1, .inl (G.2.2.1, N, .inl v0.1))] 15 [(0, .ref q0), (1, .int y1), (2, .int y2)] [] := by
    intro n
    induction n with
    | zero =>
      intro y1 y2 hf
      rw [zf_X1_wordOfCharacters_L15] at hf
      cases hf
    | succ n15 ih15 =>
      intro y1 y2 hf
      rw [zf_X1_wordOfCharacters_L15] at hf
      refine zg_iload_n X dX1_wordOfCharacters_15 rfl 2 rfl ?_
      refine zg_aload_n X dX1_wordOfCharacters_16 rfl 0 rfl ?_
      obtain ⟨b3, hb3, hf⟩ := pl_b hf
      refine zg_cP1 X (zg_runV X (zc_X5_size G q0 q1 N v0 fu b3 hb3) gX1_wordOfCharacters_X5_size rfl zh_X5_size ⟨rfl, rfl⟩ ⟨Nat.le_of_ble_eq_true rfl, Nat.le_of_ble_eq_true rfl⟩ rfl rfl rfl (Nat.le_of_ble_eq_true rfl) ⟨Nat.le_of_ble_eq_true rfl, Nat.le_of_ble_eq_true rfl⟩ [0, 1] (by decide) rfl rfl dX1_wordOfCharacters_17) rfl ?_
      refine zg_icmp_ge (tgt := 57) X dX1_wordOfCharacters_20 (by decide) (fun c4 => ?_) (fun c4 => ?_)
      · have hf := pl_t c4 hf
        refine zg_iload_n X dX1_wordOfCharacters_57 rfl 1 rfl ?_
        have hf := Option.some.inj hf
        subst hf
        exact zg_iret X hF rfl rfl () rfl rfl (Nat.le_of_ble_eq_true rfl) (Nat.le_of_ble_eq_true rfl) dX1_wordOfCharacters_58
      · have hf := pl_f c4 hf
        refine zg_aload_n X dX1_wordOfCharacters_23 rfl 0 rfl ?_
        refine zg_iload_n X dX1_wordOfCharacters_24 rfl 2 rfl ?_
        obtain ⟨b5, hb5, hf⟩ := pl_b hf
        refine zg_cP1 X (zg_runV X (zc_X5_at G q0 q1 N v0 y2 fu b5 hb5) gX1_wordOfCharacters_X5_at rfl zh_X5_at ⟨rfl, rfl⟩ ⟨Nat.le_of_ble_eq_true rfl, Nat.le_of_ble_eq_true rfl⟩ rfl rfl rfl (Nat.le_of_ble_eq_true rfl) ⟨Nat.le_of_ble_eq_true rfl, Nat.le_of_ble_eq_true rfl⟩ [0, 1] (by decide) rfl rfl dX1_wordOfCharacters_25) rfl ?_
        obtain ⟨b6, hb6, hf⟩ := pl_b hf
        refine zg_cP1 X (zg_runS X (zc_X0_isLetter G b5 fu b6 hb6) gX1_wordOfCharacters_X0_isLetter rfl zh_X0_isLetter.2 ⟨rfl, rfl⟩ ⟨Nat.le_of_ble_eq_true rfl, Nat.le_of_ble_eq_true rfl⟩ rfl (Nat.le_of_ble_eq_true rfl) ⟨Nat.le_of_ble_eq_true rfl, Nat.le_of_ble_eq_true rfl⟩ [] (by decide) rfl rfl dX1_wordOfCharacters_28) rfl ?_
        refine zg_if_ne (tgt := 36) X dX1_wordOfCharacters_31 (by decide) (fun c7 => ?_) (fun c7 => ?_)
        · have hf := pl_f c7 hf
          refine zg_iload_n X dX1_wordOfCharacters_36 rfl 1 rfl ?_
          refine zg_aload_n X dX1_wordOfCharacters_37 rfl 0 rfl ?_
          refine zg_iload_n X dX1_wordOfCharacters_38 rfl 2 rfl ?_
          obtain ⟨b8, hb8, hf⟩ := pl_b hf
          refine zg_cP1 X (zg_runV X (zc_X5_at G q0 q1 N v0 y2 fu b8 hb8) gX1_wordOfCharacters_X5_at rfl zh_X5_at ⟨rfl, rfl⟩ ⟨Nat.le_of_ble_eq_true rfl, Nat.le_of_ble_eq_true rfl⟩ rfl rfl rfl (Nat.le_of_ble_eq_true rfl) ⟨Nat.le_of_ble_eq_true rfl, Nat.le_of_ble_eq_true rfl⟩ [0, 1] (by decide) rfl rfl dX1_wordOfCharacters_39) rfl ?_
          obtain ⟨b9, hb9, hf⟩ := pl_b hf
          refine zg_cP1 X (zg_runS X (zc_X0_codeOf G b8 fu b9 hb9) gX1_wordOfCharacters_X0_codeOf rfl zh_X0_codeOf.2 ⟨rfl, rfl⟩ ⟨Nat.le_of_ble_eq_true rfl, Nat.le_of_ble_eq_true rfl⟩ rfl (Nat.le_of_ble_eq_true rfl) ⟨Nat.le_of_ble_eq_true rfl, Nat.le_of_ble_eq_true rfl⟩ [] (by decide) rfl rfl dX1_wordOfCharacters_42) rfl ?_
          refine zg_iconst (v := 5) X dX1_wordOfCharacters_45 (by decide) ?_
          refine zg_iload_n X dX1_wordOfCharacters_46 rfl 2 rfl ?_
          refine zg_imul X dX1_wordOfCharacters_47 ?_
          refine zg_ishl X dX1_wordOfCharacters_48 ?_
          refine zg_ior X dX1_wordOfCharacters_49 ?_
          obtain ⟨x10, ex10, hf⟩ := pl_l hf
          refine zg_topi ex10 ?_
          refine zg_istore_n (L' := [(1, .int x10), (0, .ref q0), (2, .int y2)]) X dX1_wordOfCharacters_50 rfl (by decide) rfl ?_
          obtain ⟨x11, ex11, hf⟩ := pl_l hf
          refine zg_iinc (v := x11) (L' := [(2, .int x11), (1, .int x10), (0, .ref q0)]) X dX1_wordOfCharacters_51 (j := 2) rfl (by rw [ex11]; rfl) (by decide) rfl ?_
          refine zg_goto (tgt := 15) X dX1_wordOfCharacters_54 (by decide) ?_
          refine zg_loc [2, 1, 0] rfl ?_
          exact ih15 x10 x11 hf
        · have hf := pl_t c7 hf
          refine zg_iconst (v := 0) X dX1_wordOfCharacters_34 (by decide) ?_
          have hf := Option.some.inj hf
          subst hf
          exact zg_iret X hF rfl rfl () rfl rfl (Nat.le_of_ble_eq_true rfl) (Nat.le_of_ble_eq_true rfl) dX1_wordOfCharacters_35
  unfold zf_X1_wordOfCharacters at hf
  refine zg_aload_n X dX1_wordOfCharacters_0 rfl 0 rfl ?_
  obtain ⟨b1, hb1, hf⟩ := pl_b hf
  refine zg_cP1 X (zg_runV X (zc_X5_size G q0 q1 N v0 fu b1 hb1) gX1_wordOfCharacters_X5_size rfl zh_X5_size ⟨rfl, rfl⟩ ⟨Nat.le_of_ble_eq_true rfl, Nat.le_of_ble_eq_true rfl⟩ rfl rfl rfl (Nat.le_of_ble_eq_true rfl) ⟨Nat.le_of_ble_eq_true rfl, Nat.le_of_ble_eq_true rfl⟩ [0, 1] (by decide) rfl rfl dX1_wordOfCharacters_1) rfl ?_
  refine zg_bipush (v := 6) X dX1_wordOfCharacters_4 (by decide) ?_
  refine zg_icmp_le (tgt := 11) X dX1_wordOfCharacters_6 (by decide) (fun c2 => ?_) (fun c2 => ?_)
  · have hf := pl_t c2 hf
    refine zg_iconst (v := 0) X dX1_wordOfCharacters_11 (by decide) ?_
    refine zg_istore_n (L' := [(1, .int 0), (0, .ref q0)]) X dX1_wordOfCharacters_12 rfl (by decide) rfl ?_
    refine zg_iconst (v := 0) X dX1_wordOfCharacters_13 (by decide) ?_
    refine zg_istore_n (L' := [(2, .int 0), (1, .int 0), (0, .ref q0)]) X dX1_wordOfCharacters_14 rfl (by decide) rfl ?_
    refine zg_loc [2, 1, 0] rfl ?_
    exact hL15 fu 0 0 hf
  · have hf := pl_f c2 hf
    refine zg_iconst (v := 0) X dX1_wordOfCharacters_9 (by decide) ?_
    have hf := Option.some.inj hf
    subst hf
    exact zg_iret X hF rfl rfl () rfl rfl (Nat.le_of_ble_eq_true rfl) (Nat.le_of_ble_eq_true rfl) dX1_wordOfCharacters_10
theorem zh_X1_wordOfCodes : yX1_wordOfCodes.cls = RX1 ∧ yX1_wordOfCodes.cls ≠ "java/lang/invoke/MethodHandle" ∧ yX1_wordOfCodes.cls ≠ "java/lang/invoke/VarHandle" ∧ (parseMethodDescriptor yX1_wordOfCodes.desc).map (fun d => d.parameters.length) = some 3 := by decide +kernel
set_option maxHeartbeats 8000000 in
set_option maxRecDepth 100000 in
theorem zc_X1_wordOfCodes (G : zgG) (q0 q1 : Nat) (N : Nat) (v0 : zRow) (a1 : Int32) (a2 : Int32) (fu : Nat) (res : Int32) (hf : zf_X1_wordOfCodes fu N v0 a1 a2 = some res) : zgCt G yX1_wordOfCodes wsX1_wordOfCodes ({ frames := 1, cells := 0, slots := 0, locals := 21 } : Room) [.ref q0, .int a1, .int a2] [(q0, .inr (4, [.ref q1, .int v0.2])), (q1, .inl (G.2.2.1, N, .inl v0.1))] (fun _ : Unit => some (.int res)) (fun _ => [(q0, .inr (4, [.ref q1, .int v0.2])), (q1, .inl (G.2.2.1, N, .inl v0.1))]) 0 0 := by
  refine zg_of (own := RX1) (cc := cX1_wordOfCodes) (nL := 5) (ret := (some .int)) (by decide +kernel) rfl rfl (Nat.le_of_ble_eq_true rfl) (fun Z X hF => ?_)
  show zgGd G Z _ 0 0 5 _ 0 [(0, .ref q0), (1, .int a1), (2, .int a2)] []
  have hL15 : ∀ (n : Nat) (y1 : Int32) (y2 : Int32) (y3 : Int32) (y4 : Int32), zf_X1_wordOfCodes_L15 fu N v0 n y1 y2 y3 y4 = some res → zgGd G Z ({ frames := 1, cells := 0, slots := 0, locals := 21 } : Room) 0 0 5 [(q0, .inr (4, [.ref q1, .int v0.2])), (q1, .inl (G.2.2.1, N, .inl v0.1))] 15 [(0, .ref q0), (1, .int y1), (2, .int y2), (3, .int y3), (4, .int y4)] [] := by
    intro n
    induction n with
    | zero =>
      intro y1 y2 y3 y4 hf
      rw [zf_X1_wordOfCodes_L15] at hf
      cases hf
    | succ n15 ih15 =>
      intro y1 y2 y3 y4 hf
      rw [zf_X1_wordOfCodes_L15] at hf
      refine zg_iload X dX1_wordOfCodes_15 4 rfl ?_
      refine zg_iload_n X dX1_wordOfCodes_17 rfl 2 rfl ?_
      refine zg_icmp_ge (tgt := 43) X dX1_wordOfCodes_18 (by decide) (fun c2 => ?_) (fun c2 => ?_)
      · have hf := pl_t c2 hf
        refine zg_iload_n X dX1_wordOfCodes_43 rfl 3 rfl ?_
        have hf := Option.some.inj hf
        subst hf
        exact zg_iret X hF rfl rfl () rfl rfl (Nat.le_of_ble_eq_true rfl) (Nat.le_of_ble_eq_true rfl) dX1_wordOfCodes_44
      · have hf := pl_f c2 hf
        refine zg_iload_n X dX1_wordOfCodes_21 rfl 3 rfl ?_
        refine zg_aload_n X dX1_wordOfCodes_22 rfl 0 rfl ?_
        refine zg_iload X dX1_wordOfCodes_23 4 rfl ?_
        obtain ⟨b3, hb3, hf⟩ := pl_b hf
        refine zg_cP1 X (zg_runV X (zc_X5_at G q0 q1 N v0 y4 fu b3 hb3) gX1_wordOfCodes_X5_at rfl zh_X5_at ⟨rfl, rfl⟩ ⟨Nat.le_of_ble_eq_true rfl, Nat.le_of_ble_eq_true rfl⟩ rfl rfl rfl (Nat.le_of_ble_eq_true rfl) ⟨Nat.le_of_ble_eq_true rfl, Nat.le_of_ble_eq_true rfl⟩ [0, 1] (by decide) rfl rfl dX1_wordOfCodes_25) rfl ?_
        refine zg_iconst (v := 5) X dX1_wordOfCodes_28 (by decide) ?_
        refine zg_iload X dX1_wordOfCodes_29 4 rfl ?_
        refine zg_iload_n X dX1_wordOfCodes_31 rfl 1 rfl ?_
        refine zg_isub X dX1_wordOfCodes_32 ?_
        refine zg_imul X dX1_wordOfCodes_33 ?_
        refine zg_ishl X dX1_wordOfCodes_34 ?_
        refine zg_ior X dX1_wordOfCodes_35 ?_
        obtain ⟨x4, ex4, hf⟩ := pl_l hf
        refine zg_topi ex4 ?_
        refine zg_istore_n (L' := [(3, .int x4), (0, .ref q0), (1, .int y1), (2, .int y2), (4, .int y4)]) X dX1_wordOfCodes_36 rfl (by decide) rfl ?_
        obtain ⟨x5, ex5, hf⟩ := pl_l hf
        refine zg_iinc (v := x5) (L' := [(4, .int x5), (3, .int x4), (0, .ref q0), (1, .int y1), (2, .int y2)]) X dX1_wordOfCodes_37 (j := 4) rfl (by rw [ex5]; rfl) (by decide) rfl ?_
        refine zg_goto (tgt := 15) X dX1_wordOfCodes_40 (by decide) ?_
        refine zg_loc [2, 3, 4, 1, 0] rfl ?_
        exact ih15 y1 y2 x4 x5 hf
  unfold zf_X1_wordOfCodes at hf
  refine zg_iload_n X dX1_wordOfCodes_0 rfl 2 rfl ?_
  refine zg_iload_n X dX1_wordOfCodes_1 rfl 1 rfl ?_
  refine zg_isub X dX1_wordOfCodes_2 ?_
  refine zg_bipush (v := 6) X dX1_wordOfCodes_3 (by decide) ?_
  refine zg_icmp_le (tgt := 10) X dX1_wordOfCodes_5 (by decide) (fun c1 => ?_) (fun c1 => ?_)
  · have hf := pl_t c1 hf
    refine zg_iconst (v := 0) X dX1_wordOfCodes_10 (by decide) ?_
    refine zg_istore_n (L' := [(3, .int 0), (0, .ref q0), (1, .int a1), (2, .int a2)]) X dX1_wordOfCodes_11 rfl (by decide) rfl ?_
    refine zg_iload_n X dX1_wordOfCodes_12 rfl 2 rfl ?_
    refine zg_istore (L' := [(4, .int a1), (3, .int 0), (0, .ref q0), (1, .int a1), (2, .int a2)]) X dX1_wordOfCodes_13 (by decide) rfl ?_
    refine zg_loc [2, 3, 4, 1, 0] rfl ?_
    exact hL15 fu a1 a2 0 a1 hf
  · have hf := pl_f c1 hf
    refine zg_iconst (v := 0) X dX1_wordOfCodes_8 (by decide) ?_
    have hf := Option.some.inj hf
    subst hf
    exact zg_iret X hF rfl rfl () rfl rfl (Nat.le_of_ble_eq_true rfl) (Nat.le_of_ble_eq_true rfl) dX1_wordOfCodes_9
theorem zh_X1_areDigits : yX1_areDigits.cls = RX1 ∧ yX1_areDigits.cls ≠ "java/lang/invoke/MethodHandle" ∧ yX1_areDigits.cls ≠ "java/lang/invoke/VarHandle" ∧ (parseMethodDescriptor yX1_areDigits.desc).map (fun d => d.parameters.length) = some 3 := by decide +kernel
set_option maxHeartbeats 8000000 in
set_option maxRecDepth 100000 in
theorem zc_X1_areDigits (G : zgG) (q0 q1 : Nat) (N : Nat) (v0 : zRow) (a1 : Int32) (a2 : Int32) (fu : Nat) (res : Int32) (hf : zf_X1_areDigits fu N v0 a1 a2 = some res) : zgCt G yX1_areDigits wsX1_areDigits ({ frames := 1, cells := 0, slots := 0, locals := 21 } : Room) [.ref q0, .int a1, .int a2] [(q0, .inr (4, [.ref q1, .int v0.2])), (q1, .inl (G.2.2.1, N, .inl v0.1))] (fun _ : Unit => some (.int res)) (fun _ => [(q0, .inr (4, [.ref q1, .int v0.2])), (q1, .inl (G.2.2.1, N, .inl v0.1))]) 0 0 := by
  refine zg_of (own := RX1) (cc := cX1_areDigits) (nL := 4) (ret := (some .boolean)) (by decide +kernel) rfl rfl (Nat.le_of_ble_eq_true rfl) (fun Z X hF => ?_)
  show zgGd G Z _ 0 0 4 _ 0 [(0, .ref q0), (1, .int a1), (2, .int a2)] []
  have hL2 : ∀ (n : Nat) (y2 : Int32) (y3 : Int32), zf_X1_areDigits_L2 fu N v0 n y2 y3 = some res → zgGd G Z ({ frames := 1, cells := 0, slots := 0, locals := 21 } : Room) 0 0 4 [(q0, .inr (4, [.ref q1, .int v0.2])), (q1, .inl (G.2.2.1, N, .inl v0.1))] 2 [(0, .ref q0), (2, .int y2), (3, .int y3)] [] := by
    intro n
    induction n with
    | zero =>
      intro y2 y3 hf
      rw [zf_X1_areDigits_L2] at hf
      cases hf
    | succ n2 ih2 =>
      intro y2 y3 hf
      rw [zf_X1_areDigits_L2] at hf
      refine zg_iload_n X dX1_areDigits_2 rfl 2 rfl ?_
      refine zg_iload_n X dX1_areDigits_3 rfl 1 rfl ?_
      refine zg_icmp_ge (tgt := 26) X dX1_areDigits_4 (by decide) (fun c1 => ?_) (fun c1 => ?_)
      · have hf := pl_t c1 hf
        refine zg_iconst (v := 1) X dX1_areDigits_26 (by decide) ?_
        have hf := Option.some.inj hf
        subst hf
        exact zg_iret X hF rfl rfl () rfl rfl (Nat.le_of_ble_eq_true rfl) (Nat.le_of_ble_eq_true rfl) dX1_areDigits_27
      · have hf := pl_f c1 hf
        refine zg_aload_n X dX1_areDigits_7 rfl 0 rfl ?_
        refine zg_iload_n X dX1_areDigits_8 rfl 2 rfl ?_
        obtain ⟨b2, hb2, hf⟩ := pl_b hf
        refine zg_cP1 X (zg_runV X (zc_X5_at G q0 q1 N v0 y3 fu b2 hb2) gX1_areDigits_X5_at rfl zh_X5_at ⟨rfl, rfl⟩ ⟨Nat.le_of_ble_eq_true rfl, Nat.le_of_ble_eq_true rfl⟩ rfl rfl rfl (Nat.le_of_ble_eq_true rfl) ⟨Nat.le_of_ble_eq_true rfl, Nat.le_of_ble_eq_true rfl⟩ [0, 1] (by decide) rfl rfl dX1_areDigits_9) rfl ?_
        obtain ⟨b3, hb3, hf⟩ := pl_b hf
        refine zg_cP1 X (zg_runS X (zc_X0_isDigit G b2 fu b3 hb3) gX1_areDigits_X0_isDigit rfl zh_X0_isDigit.2 ⟨rfl, rfl⟩ ⟨Nat.le_of_ble_eq_true rfl, Nat.le_of_ble_eq_true rfl⟩ rfl (Nat.le_of_ble_eq_true rfl) ⟨Nat.le_of_ble_eq_true rfl, Nat.le_of_ble_eq_true rfl⟩ [] (by decide) rfl rfl dX1_areDigits_12) rfl ?_
        refine zg_if_ne (tgt := 20) X dX1_areDigits_15 (by decide) (fun c4 => ?_) (fun c4 => ?_)
        · have hf := pl_f c4 hf
          obtain ⟨x5, ex5, hf⟩ := pl_l hf
          refine zg_iinc (v := x5) (L' := [(3, .int x5), (0, .ref q0), (2, .int y2)]) X dX1_areDigits_20 (j := 2) rfl (by rw [ex5]; rfl) (by decide) rfl ?_
          refine zg_goto (tgt := 2) X dX1_areDigits_23 (by decide) ?_
          refine zg_loc [1, 2, 0] rfl ?_
          exact ih2 y2 x5 hf
        · have hf := pl_t c4 hf
          refine zg_iconst (v := 0) X dX1_areDigits_18 (by decide) ?_
          have hf := Option.some.inj hf
          subst hf
          exact zg_iret X hF rfl rfl () rfl rfl (Nat.le_of_ble_eq_true rfl) (Nat.le_of_ble_eq_true rfl) dX1_areDigits_19
  unfold zf_X1_areDigits at hf
  refine zg_iload_n X dX1_areDigits_0 rfl 1 rfl ?_
  refine zg_istore_n (L' := [(3, .int a1), (0, .ref q0), (1, .int a1), (2, .int a2)]) X dX1_areDigits_1 rfl (by decide) rfl ?_
  refine zg_loc [1, 3, 0] rfl ?_
  exact hL2 fu a2 a1 hf
theorem zh_X1_findSegment : yX1_findSegment.cls = RX1 ∧ yX1_findSegment.cls ≠ "java/lang/invoke/MethodHandle" ∧ yX1_findSegment.cls ≠ "java/lang/invoke/VarHandle" ∧ (parseMethodDescriptor yX1_findSegment.desc).map (fun d => d.parameters.length) = some 3 := by decide +kernel
set_option maxHeartbeats 8000000 in
set_option maxRecDepth 100000 in
theorem zc_X1_findSegment (G : zgG) (q0 q1 q2 q3 q4 : Nat) (N : Nat) (v0 : zRow) (v1 : zRow) (a2 : Int32) (a3 : Int32) (fu : Nat) (res : Int32) (hf : zf_X1_findSegment fu N v0 v1 a2 a3 = some res) : zgCt G yX1_findSegment wsX1_findSegment ({ frames := 2, cells := 0, slots := 0, locals := 45 } : Room) [.ref q0, .ref q3, .int a2, .int a3] [(q0, .inr (0, [.ref q1])), (q1, .inr (4, [.ref q2, .int v0.2])), (q2, .inl (G.2.2.1, 20, .inl v0.1)), (q3, .inr (4, [.ref q4, .int v1.2])), (q4, .inl (G.2.2.1, N, .inl v1.1))] (fun _ : Unit => some (.int res)) (fun _ => [(q0, .inr (0, [.ref q1])), (q1, .inr (4, [.ref q2, .int v0.2])), (q2, .inl (G.2.2.1, 20, .inl v0.1)), (q3, .inr (4, [.ref q4, .int v1.2])), (q4, .inl (G.2.2.1, N, .inl v1.1))]) 0 0 := by
  have hw0 : Cond.fieldLink RX1 14 "TelexReceiver$Dictionary" "wordRow" "LTelexReceiver$Row;" ∈ wsX1_findSegment := by decide +kernel
  have hiX1 : ∀ w ∈ u_ws RX1 TX1 1, w ∈ wsX1_findSegment := by decide +kernel
  refine zg_of (own := RX1) (cc := cX1_findSegment) (nL := 5) (ret := (some .int)) (by decide +kernel) rfl rfl (Nat.le_of_ble_eq_true rfl) (fun Z X hF => ?_)
  show zgGd G Z _ 0 0 5 _ 0 [(0, .ref q0), (1, .ref q3), (2, .int a2), (3, .int a3)] []
  unfold zf_X1_findSegment at hf
  refine zg_aload_n X dX1_findSegment_0 rfl 1 rfl ?_
  refine zg_iload_n X dX1_findSegment_1 rfl 2 rfl ?_
  refine zg_iload_n X dX1_findSegment_2 rfl 3 rfl ?_
  obtain ⟨b1, hb1, hf⟩ := pl_b hf
  refine zg_cP1 X (zg_runS X (zc_X1_wordOfCodes G q3 q4 N v1 a2 a3 fu b1 hb1) gX1_findSegment_X1_wordOfCodes rfl zh_X1_wordOfCodes.2 ⟨rfl, rfl⟩ ⟨Nat.le_of_ble_eq_true rfl, Nat.le_of_ble_eq_true rfl⟩ rfl (Nat.le_of_ble_eq_true rfl) ⟨Nat.le_of_ble_eq_true rfl, Nat.le_of_ble_eq_true rfl⟩ [3, 4] (by decide) rfl rfl dX1_findSegment_3) rfl ?_
  refine zg_istore (L' := [(4, .int b1), (0, .ref q0), (1, .ref q3), (2, .int a2), (3, .int a3)]) X dX1_findSegment_6 (by decide) rfl ?_
  refine zg_iload X dX1_findSegment_8 0 rfl ?_
  refine zg_if_ne (tgt := 17) X dX1_findSegment_10 (by decide) (fun c2 => ?_) (fun c2 => ?_)
  · have hf := pl_f c2 hf
    refine zg_aload_n X dX1_findSegment_17 rfl 1 rfl ?_
    refine zg_get (C := RX1) (T := TX1) (N := 1) X 0 0 hiX1 rfl rfl (by decide) hw0 rfl dX1_findSegment_18 ?_
    refine zg_iload X dX1_findSegment_21 0 rfl ?_
    obtain ⟨b3, hb3, hf⟩ := pl_b hf
    refine zg_cP1 X (zg_runV X (zc_X5_find G q1 q2 20 v0 b1 fu b3 hb3) gX1_findSegment_X5_find rfl zh_X5_find ⟨rfl, rfl⟩ ⟨Nat.le_of_ble_eq_true rfl, Nat.le_of_ble_eq_true rfl⟩ rfl rfl rfl (Nat.le_of_ble_eq_true rfl) ⟨Nat.le_of_ble_eq_true rfl, Nat.le_of_ble_eq_true rfl⟩ [1, 2] (by decide) rfl rfl dX1_findSegment_23) rfl ?_
    have hf := Option.some.inj hf
    subst hf
    exact zg_iret X hF rfl rfl () rfl rfl (Nat.le_of_ble_eq_true rfl) (Nat.le_of_ble_eq_true rfl) dX1_findSegment_26
  · have hf := pl_t c2 hf
    refine zg_iconst (v := (-1)) X dX1_findSegment_13 (by decide) ?_
    refine zg_goto (tgt := 26) X dX1_findSegment_14 (by decide) ?_
    have hf := Option.some.inj hf
    subst hf
    exact zg_iret X hF rfl rfl () rfl rfl (Nat.le_of_ble_eq_true rfl) (Nat.le_of_ble_eq_true rfl) dX1_findSegment_26
theorem zh_X1_codeOfLetter : yX1_codeOfLetter.cls = RX1 ∧ yX1_codeOfLetter.cls ≠ "java/lang/invoke/MethodHandle" ∧ yX1_codeOfLetter.cls ≠ "java/lang/invoke/VarHandle" ∧ (parseMethodDescriptor yX1_codeOfLetter.desc).map (fun d => d.parameters.length) = some 2 := by decide +kernel
set_option maxHeartbeats 8000000 in
set_option maxRecDepth 100000 in
theorem zc_X1_codeOfLetter (G : zgG) (q0 q1 q2 : Nat) (v0 : zRow) (a1 : Int32) (a2 : Int32) (fu : Nat) (res : Int32) (hf : zf_X1_codeOfLetter fu v0 a1 a2 = some res) : zgCt G yX1_codeOfLetter wsX1_codeOfLetter ({ frames := 1, cells := 0, slots := 0, locals := 21 } : Room) [.ref q0, .int a1, .int a2] [(q0, .inr (0, [.ref q1])), (q1, .inr (4, [.ref q2, .int v0.2])), (q2, .inl (G.2.2.1, 20, .inl v0.1))] (fun _ : Unit => some (.int res)) (fun _ => [(q0, .inr (0, [.ref q1])), (q1, .inr (4, [.ref q2, .int v0.2])), (q2, .inl (G.2.2.1, 20, .inl v0.1))]) 0 0 := by
  have hw0 : Cond.fieldLink RX1 14 "TelexReceiver$Dictionary" "wordRow" "LTelexReceiver$Row;" ∈ wsX1_codeOfLetter := by decide +kernel
  have hiX1 : ∀ w ∈ u_ws RX1 TX1 1, w ∈ wsX1_codeOfLetter := by decide +kernel
  refine zg_of (own := RX1) (cc := cX1_codeOfLetter) (nL := 3) (ret := (some .int)) (by decide +kernel) rfl rfl (Nat.le_of_ble_eq_true rfl) (fun Z X hF => ?_)
  show zgGd G Z _ 0 0 3 _ 0 [(0, .ref q0), (1, .int a1), (2, .int a2)] []
  unfold zf_X1_codeOfLetter at hf
  refine zg_aload_n X dX1_codeOfLetter_0 rfl 0 rfl ?_
  refine zg_get (C := RX1) (T := TX1) (N := 1) X 0 0 hiX1 rfl rfl (by decide) hw0 rfl dX1_codeOfLetter_1 ?_
  refine zg_iload_n X dX1_codeOfLetter_4 rfl 1 rfl ?_
  obtain ⟨b1, hb1, hf⟩ := pl_b hf
  refine zg_cP1 X (zg_runV X (zc_X5_at G q1 q2 20 v0 a1 fu b1 hb1) gX1_codeOfLetter_X5_at rfl zh_X5_at ⟨rfl, rfl⟩ ⟨Nat.le_of_ble_eq_true rfl, Nat.le_of_ble_eq_true rfl⟩ rfl rfl rfl (Nat.le_of_ble_eq_true rfl) ⟨Nat.le_of_ble_eq_true rfl, Nat.le_of_ble_eq_true rfl⟩ [1, 2] (by decide) rfl rfl dX1_codeOfLetter_5) rfl ?_
  refine zg_iconst (v := 5) X dX1_codeOfLetter_8 (by decide) ?_
  refine zg_iload_n X dX1_codeOfLetter_9 rfl 2 rfl ?_
  refine zg_imul X dX1_codeOfLetter_10 ?_
  refine zg_ishr X dX1_codeOfLetter_11 ?_
  refine zg_bipush (v := 31) X dX1_codeOfLetter_12 (by decide) ?_
  refine zg_iand X dX1_codeOfLetter_14 ?_
  obtain ⟨x2, ex2, hf⟩ := pl_l hf
  refine zg_topi ex2 ?_
  have hf := Option.some.inj hf
  subst hf
  exact zg_iret X hF rfl rfl () rfl rfl (Nat.le_of_ble_eq_true rfl) (Nat.le_of_ble_eq_true rfl) dX1_codeOfLetter_15
theorem zh_X1_lengthOf : yX1_lengthOf.cls = RX1 ∧ yX1_lengthOf.cls ≠ "java/lang/invoke/MethodHandle" ∧ yX1_lengthOf.cls ≠ "java/lang/invoke/VarHandle" ∧ (parseMethodDescriptor yX1_lengthOf.desc).map (fun d => d.parameters.length) = some 1 := by decide +kernel
set_option maxHeartbeats 8000000 in
set_option maxRecDepth 100000 in
theorem zc_X1_lengthOf (G : zgG) (q0 q1 q2 : Nat) (v0 : zRow) (a1 : Int32) (fu : Nat) (res : Int32) (hf : zf_X1_lengthOf fu v0 a1 = some res) : zgCt G yX1_lengthOf wsX1_lengthOf ({ frames := 2, cells := 0, slots := 0, locals := 43 } : Room) [.ref q0, .int a1] [(q0, .inr (0, [.ref q1])), (q1, .inr (4, [.ref q2, .int v0.2])), (q2, .inl (G.2.2.1, 20, .inl v0.1))] (fun _ : Unit => some (.int res)) (fun _ => [(q0, .inr (0, [.ref q1])), (q1, .inr (4, [.ref q2, .int v0.2])), (q2, .inl (G.2.2.1, 20, .inl v0.1))]) 0 0 := by
  refine zg_of (own := RX1) (cc := cX1_lengthOf) (nL := 4) (ret := (some .int)) (by decide +kernel) rfl rfl (Nat.le_of_ble_eq_true rfl) (fun Z X hF => ?_)
  show zgGd G Z _ 0 0 4 _ 0 [(0, .ref q0), (1, .int a1)] []
  have hL4 : ∀ (n : Nat) (y1 : Int32) (y2 : Int32) (y3 : Int32), zf_X1_lengthOf_L4 fu v0 n y1 y2 y3 = some res → zgGd G Z ({ frames := 2, cells := 0, slots := 0, locals := 43 } : Room) 0 0 4 [(q0, .inr (0, [.ref q1])), (q1, .inr (4, [.ref q2, .int v0.2])), (q2, .inl (G.2.2.1, 20, .inl v0.1))] 4 [(0, .ref q0), (1, .int y1), (2, .int y2), (3, .int y3)] [] := by
    intro n
    induction n with
    | zero =>
      intro y1 y2 y3 hf
      rw [zf_X1_lengthOf_L4] at hf
      cases hf
    | succ n4 ih4 =>
      have hb22 : ∀ (y1 : Int32) (y2 : Int32) (y3 : Int32), zf_X1_lengthOf_b22 fu v0 (zf_X1_lengthOf_L4 fu v0 n4) y1 y2 y3 = some res → zgGd G Z ({ frames := 2, cells := 0, slots := 0, locals := 43 } : Room) 0 0 4 [(q0, .inr (0, [.ref q1])), (q1, .inr (4, [.ref q2, .int v0.2])), (q2, .inl (G.2.2.1, 20, .inl v0.1))] 22 [(0, .ref q0), (1, .int y1), (2, .int y2), (3, .int y3)] [] := by
        intro y1 y2 y3 hf
        unfold zf_X1_lengthOf_b22 at hf
        obtain ⟨x5, ex5, hf⟩ := pl_l hf
        refine zg_iinc (v := x5) (L' := [(3, .int x5), (0, .ref q0), (1, .int y1), (2, .int y2)]) X dX1_lengthOf_22 (j := 3) rfl (by rw [ex5]; rfl) (by decide) rfl ?_
        refine zg_goto (tgt := 4) X dX1_lengthOf_25 (by decide) ?_
        refine zg_loc [1, 2, 3, 0] rfl ?_
        exact ih4 y1 y2 x5 hf
      intro y1 y2 y3 hf
      rw [zf_X1_lengthOf_L4] at hf
      refine zg_iload_n X dX1_lengthOf_4 rfl 3 rfl ?_
      refine zg_bipush (v := 6) X dX1_lengthOf_5 (by decide) ?_
      refine zg_icmp_ge (tgt := 28) X dX1_lengthOf_7 (by decide) (fun c1 => ?_) (fun c1 => ?_)
      · have hf := pl_t c1 hf
        refine zg_iload_n X dX1_lengthOf_28 rfl 2 rfl ?_
        have hf := Option.some.inj hf
        subst hf
        exact zg_iret X hF rfl rfl () rfl rfl (Nat.le_of_ble_eq_true rfl) (Nat.le_of_ble_eq_true rfl) dX1_lengthOf_29
      · have hf := pl_f c1 hf
        refine zg_aload_n X dX1_lengthOf_10 rfl 0 rfl ?_
        refine zg_iload_n X dX1_lengthOf_11 rfl 1 rfl ?_
        refine zg_iload_n X dX1_lengthOf_12 rfl 3 rfl ?_
        obtain ⟨b2, hb2, hf⟩ := pl_b hf
        refine zg_cP1 X (zg_runV X (zc_X1_codeOfLetter G q0 q1 q2 v0 y1 y3 fu b2 hb2) gX1_lengthOf_X1_codeOfLetter rfl zh_X1_codeOfLetter ⟨rfl, rfl⟩ ⟨Nat.le_of_ble_eq_true rfl, Nat.le_of_ble_eq_true rfl⟩ rfl rfl rfl (Nat.le_of_ble_eq_true rfl) ⟨Nat.le_of_ble_eq_true rfl, Nat.le_of_ble_eq_true rfl⟩ [0, 1, 2] (by decide) rfl rfl dX1_lengthOf_13) rfl ?_
        refine zg_if_eq (tgt := 22) X dX1_lengthOf_16 (by decide) (fun c3 => ?_) (fun c3 => ?_)
        · have hf := pl_t c3 hf
          exact hb22 y1 y2 y3 hf
        · have hf := pl_f c3 hf
          obtain ⟨x4, ex4, hf⟩ := pl_l hf
          refine zg_iinc (v := x4) (L' := [(2, .int x4), (0, .ref q0), (1, .int y1), (3, .int y3)]) X dX1_lengthOf_19 (j := 2) rfl (by rw [ex4]; rfl) (by decide) rfl ?_
          refine zg_loc [1, 2, 0, 3] rfl ?_
          exact hb22 y1 x4 y3 hf
  unfold zf_X1_lengthOf at hf
  refine zg_iconst (v := 0) X dX1_lengthOf_0 (by decide) ?_
  refine zg_istore_n (L' := [(2, .int 0), (0, .ref q0), (1, .int a1)]) X dX1_lengthOf_1 rfl (by decide) rfl ?_
  refine zg_iconst (v := 0) X dX1_lengthOf_2 (by decide) ?_
  refine zg_istore_n (L' := [(3, .int 0), (2, .int 0), (0, .ref q0), (1, .int a1)]) X dX1_lengthOf_3 rfl (by decide) rfl ?_
  refine zg_loc [2, 3, 1, 0] rfl ?_
  exact hL4 fu a1 0 0 hf
theorem zh_X1_kindOf : yX1_kindOf.cls = RX1 ∧ yX1_kindOf.cls ≠ "java/lang/invoke/MethodHandle" ∧ yX1_kindOf.cls ≠ "java/lang/invoke/VarHandle" ∧ (parseMethodDescriptor yX1_kindOf.desc).map (fun d => d.parameters.length) = some 4 := by decide +kernel
set_option maxHeartbeats 8000000 in
set_option maxRecDepth 100000 in
theorem zc_X1_kindOf (G : zgG) (q0 q1 q2 q3 q4 : Nat) (N : Nat) (v0 : zRow) (v1 : zRow) (a2 : Int32) (a3 : Int32) (a4 : Int32) (fu : Nat) (res : Int32) (hf : zf_X1_kindOf fu N v0 v1 a2 a3 a4 = some res) : zgCt G yX1_kindOf wsX1_kindOf ({ frames := 3, cells := 0, slots := 0, locals := 69 } : Room) [.ref q0, .ref q3, .int a2, .int a3, .int a4] [(q0, .inr (0, [.ref q1])), (q1, .inr (4, [.ref q2, .int v0.2])), (q2, .inl (G.2.2.1, 20, .inl v0.1)), (q3, .inr (4, [.ref q4, .int v1.2])), (q4, .inl (G.2.2.1, N, .inl v1.1))] (fun _ : Unit => some (.int res)) (fun _ => [(q0, .inr (0, [.ref q1])), (q1, .inr (4, [.ref q2, .int v0.2])), (q2, .inl (G.2.2.1, 20, .inl v0.1)), (q3, .inr (4, [.ref q4, .int v1.2])), (q4, .inl (G.2.2.1, N, .inl v1.1))]) 0 0 := by
  refine zg_of (own := RX1) (cc := cX1_kindOf) (nL := 7) (ret := (some .int)) (by decide +kernel) rfl rfl (Nat.le_of_ble_eq_true rfl) (fun Z X hF => ?_)
  show zgGd G Z _ 0 0 7 _ 0 [(0, .ref q0), (1, .ref q3), (2, .int a2), (3, .int a3), (4, .int a4)] []
  have hb47 : ∀ (y4 : Int32) (y5 : Int32) (y6 : Int32), zf_X1_kindOf_b47 fu N v0 v1 y4 y5 y6 = some res → zgGd G Z ({ frames := 3, cells := 0, slots := 0, locals := 69 } : Room) 0 0 7 [(q0, .inr (0, [.ref q1])), (q1, .inr (4, [.ref q2, .int v0.2])), (q2, .inl (G.2.2.1, 20, .inl v0.1)), (q3, .inr (4, [.ref q4, .int v1.2])), (q4, .inl (G.2.2.1, N, .inl v1.1))] 47 [(4, .int y4), (5, .int y5), (6, .int y6)] [] := by
    intro y4 y5 y6 hf
    unfold zf_X1_kindOf_b47 at hf
    refine zg_iload X dX1_kindOf_47 1 rfl ?_
    refine zg_if_eq (tgt := 54) X dX1_kindOf_49 (by decide) (fun c7 => ?_) (fun c7 => ?_)
    · have hf := pl_t c7 hf
      refine zg_iload X dX1_kindOf_54 2 rfl ?_
      refine zg_if_eq (tgt := 63) X dX1_kindOf_56 (by decide) (fun c8 => ?_) (fun c8 => ?_)
      · have hf := pl_t c8 hf
        refine zg_iload X dX1_kindOf_63 0 rfl ?_
        refine zg_iconst (v := 4) X dX1_kindOf_65 (by decide) ?_
        refine zg_iadd X dX1_kindOf_66 ?_
        obtain ⟨x9, ex9, hf⟩ := pl_l hf
        refine zg_topi ex9 ?_
        have hf := Option.some.inj hf
        subst hf
        exact zg_iret X hF rfl rfl () rfl rfl (Nat.le_of_ble_eq_true rfl) (Nat.le_of_ble_eq_true rfl) dX1_kindOf_67
      · have hf := pl_f c8 hf
        refine zg_iconst (v := 3) X dX1_kindOf_59 (by decide) ?_
        refine zg_goto (tgt := 67) X dX1_kindOf_60 (by decide) ?_
        have hf := Option.some.inj hf
        subst hf
        exact zg_iret X hF rfl rfl () rfl rfl (Nat.le_of_ble_eq_true rfl) (Nat.le_of_ble_eq_true rfl) dX1_kindOf_67
    · have hf := pl_f c7 hf
      refine zg_iconst (v := 2) X dX1_kindOf_52 (by decide) ?_
      have hf := Option.some.inj hf
      subst hf
      exact zg_iret X hF rfl rfl () rfl rfl (Nat.le_of_ble_eq_true rfl) (Nat.le_of_ble_eq_true rfl) dX1_kindOf_53
  have hb16 : ∀ (y2 : Int32) (y3 : Int32) (y4 : Int32) (z0 : Int32), zf_X1_kindOf_b16 fu N v0 v1 y2 y3 y4 z0 = some res → zgGd G Z ({ frames := 3, cells := 0, slots := 0, locals := 69 } : Room) 0 0 7 [(q0, .inr (0, [.ref q1])), (q1, .inr (4, [.ref q2, .int v0.2])), (q2, .inl (G.2.2.1, 20, .inl v0.1)), (q3, .inr (4, [.ref q4, .int v1.2])), (q4, .inl (G.2.2.1, N, .inl v1.1))] 16 [(1, .ref q3), (2, .int y2), (3, .int y3), (4, .int y4)] [.int z0] := by
    intro y2 y3 y4 z0 hf
    unfold zf_X1_kindOf_b16 at hf
    refine zg_istore (L' := [(5, .int z0), (1, .ref q3), (2, .int y2), (3, .int y3), (4, .int y4)]) X dX1_kindOf_16 (by decide) rfl ?_
    refine zg_aload_n X dX1_kindOf_18 rfl 1 rfl ?_
    refine zg_iload_n X dX1_kindOf_19 rfl 2 rfl ?_
    refine zg_iload_n X dX1_kindOf_20 rfl 3 rfl ?_
    obtain ⟨b3, hb3, hf⟩ := pl_b hf
    refine zg_cP1 X (zg_runS X (zc_X1_areDigits G q3 q4 N v1 y2 y3 fu b3 hb3) gX1_kindOf_X1_areDigits rfl zh_X1_areDigits.2 ⟨rfl, rfl⟩ ⟨Nat.le_of_ble_eq_true rfl, Nat.le_of_ble_eq_true rfl⟩ rfl (Nat.le_of_ble_eq_true rfl) ⟨Nat.le_of_ble_eq_true rfl, Nat.le_of_ble_eq_true rfl⟩ [3, 4] (by decide) rfl rfl dX1_kindOf_21) rfl ?_
    refine zg_istore (L' := [(6, .int b3), (5, .int z0), (1, .ref q3), (2, .int y2), (3, .int y3), (4, .int y4)]) X dX1_kindOf_24 (by decide) rfl ?_
    refine zg_iload X dX1_kindOf_26 5 rfl ?_
    refine zg_if_ne (tgt := 39) X dX1_kindOf_28 (by decide) (fun c4 => ?_) (fun c4 => ?_)
    · have hf := pl_f c4 hf
      refine zg_iload X dX1_kindOf_39 0 rfl ?_
      refine zg_if_eq (tgt := 47) X dX1_kindOf_41 (by decide) (fun c5 => ?_) (fun c5 => ?_)
      · have hf := pl_t c5 hf
        refine zg_loc [5, 1, 0] rfl ?_
        exact hb47 y4 z0 b3 hf
      · have hf := pl_f c5 hf
        refine zg_iload X dX1_kindOf_44 5 rfl ?_
        have hf := Option.some.inj hf
        subst hf
        exact zg_iret X hF rfl rfl () rfl rfl (Nat.le_of_ble_eq_true rfl) (Nat.le_of_ble_eq_true rfl) dX1_kindOf_46
    · have hf := pl_t c4 hf
      refine zg_iload X dX1_kindOf_31 1 rfl ?_
      refine zg_if_eq (tgt := 47) X dX1_kindOf_33 (by decide) (fun c6 => ?_) (fun c6 => ?_)
      · have hf := pl_t c6 hf
        refine zg_loc [5, 1, 0] rfl ?_
        exact hb47 y4 z0 b3 hf
      · have hf := pl_f c6 hf
        refine zg_goto (tgt := 44) X dX1_kindOf_36 (by decide) ?_
        refine zg_iload X dX1_kindOf_44 5 rfl ?_
        have hf := Option.some.inj hf
        subst hf
        exact zg_iret X hF rfl rfl () rfl rfl (Nat.le_of_ble_eq_true rfl) (Nat.le_of_ble_eq_true rfl) dX1_kindOf_46
  unfold zf_X1_kindOf at hf
  refine zg_aload_n X dX1_kindOf_0 rfl 0 rfl ?_
  refine zg_aload_n X dX1_kindOf_1 rfl 1 rfl ?_
  refine zg_iload_n X dX1_kindOf_2 rfl 2 rfl ?_
  refine zg_iload_n X dX1_kindOf_3 rfl 3 rfl ?_
  obtain ⟨b1, hb1, hf⟩ := pl_b hf
  refine zg_cP1 X (zg_runV X (zc_X1_findSegment G q0 q1 q2 q3 q4 N v0 v1 a2 a3 fu b1 hb1) gX1_kindOf_X1_findSegment rfl zh_X1_findSegment ⟨rfl, rfl⟩ ⟨Nat.le_of_ble_eq_true rfl, Nat.le_of_ble_eq_true rfl⟩ rfl rfl rfl (Nat.le_of_ble_eq_true rfl) ⟨Nat.le_of_ble_eq_true rfl, Nat.le_of_ble_eq_true rfl⟩ [0, 1, 2, 3, 4] (by decide) rfl rfl dX1_kindOf_4) rfl ?_
  refine zg_iconst (v := (-1)) X dX1_kindOf_7 (by decide) ?_
  refine zg_icmp_eq (tgt := 15) X dX1_kindOf_8 (by decide) (fun c2 => ?_) (fun c2 => ?_)
  · have hf := pl_t c2 hf
    refine zg_iconst (v := 0) X dX1_kindOf_15 (by decide) ?_
    refine zg_loc [1, 2, 3, 4] rfl ?_
    exact hb16 a2 a3 a4 0 hf
  · have hf := pl_f c2 hf
    refine zg_iconst (v := 1) X dX1_kindOf_11 (by decide) ?_
    refine zg_goto (tgt := 16) X dX1_kindOf_12 (by decide) ?_
    refine zg_loc [1, 2, 3, 4] rfl ?_
    exact hb16 a2 a3 a4 1 hf
theorem zh_X1_shiftOfKind : yX1_shiftOfKind.cls = RX1 ∧ yX1_shiftOfKind.cls ≠ "java/lang/invoke/MethodHandle" ∧ yX1_shiftOfKind.cls ≠ "java/lang/invoke/VarHandle" ∧ (parseMethodDescriptor yX1_shiftOfKind.desc).map (fun d => d.parameters.length) = some 1 := by decide +kernel
set_option maxHeartbeats 8000000 in
set_option maxRecDepth 100000 in
theorem zc_X1_shiftOfKind (G : zgG) (a0 : Int32) (fu : Nat) (res : Int32) (hf : zf_X1_shiftOfKind fu a0 = some res) : zgCt G yX1_shiftOfKind wsX1_shiftOfKind ({ frames := 0, cells := 0, slots := 0, locals := 0 } : Room) [.int a0] [] (fun _ : Unit => some (.int res)) (fun _ => []) 0 0 := by
  refine zg_of (own := RX1) (cc := cX1_shiftOfKind) (nL := 1) (ret := (some .int)) (by decide +kernel) rfl rfl (Nat.le_of_ble_eq_true rfl) (fun Z X hF => ?_)
  show zgGd G Z _ 0 0 1 _ 0 [(0, .int a0)] []
  unfold zf_X1_shiftOfKind at hf
  refine zg_iload_n X dX1_shiftOfKind_0 rfl 0 rfl ?_
  refine zg_iconst (v := 1) X dX1_shiftOfKind_1 (by decide) ?_
  refine zg_iand X dX1_shiftOfKind_2 ?_
  obtain ⟨x1, ex1, hf⟩ := pl_l hf
  refine zg_topi ex1 ?_
  have hf := Option.some.inj hf
  subst hf
  exact zg_iret X hF rfl rfl () rfl rfl (Nat.le_of_ble_eq_true rfl) (Nat.le_of_ble_eq_true rfl) dX1_shiftOfKind_3
theorem zh_X1_isDoubtful : yX1_isDoubtful.cls = RX1 ∧ yX1_isDoubtful.cls ≠ "java/lang/invoke/MethodHandle" ∧ yX1_isDoubtful.cls ≠ "java/lang/invoke/VarHandle" ∧ (parseMethodDescriptor yX1_isDoubtful.desc).map (fun d => d.parameters.length) = some 3 := by decide +kernel
set_option maxHeartbeats 8000000 in
set_option maxRecDepth 100000 in
theorem zc_X1_isDoubtful (G : zgG) (q0 q1 q2 q3 q4 : Nat) (N : Nat) (v0 : zRow) (v1 : zRow) (a2 : Int32) (a3 : Int32) (fu : Nat) (res : Int32) (hf : zf_X1_isDoubtful fu N v0 v1 a2 a3 = some res) : zgCt G yX1_isDoubtful wsX1_isDoubtful ({ frames := 3, cells := 0, slots := 0, locals := 69 } : Room) [.ref q0, .ref q3, .int a2, .int a3] [(q0, .inr (0, [.ref q1])), (q1, .inr (4, [.ref q2, .int v0.2])), (q2, .inl (G.2.2.1, 20, .inl v0.1)), (q3, .inr (4, [.ref q4, .int v1.2])), (q4, .inl (G.2.2.1, N, .inl v1.1))] (fun _ : Unit => some (.int res)) (fun _ => [(q0, .inr (0, [.ref q1])), (q1, .inr (4, [.ref q2, .int v0.2])), (q2, .inl (G.2.2.1, 20, .inl v0.1)), (q3, .inr (4, [.ref q4, .int v1.2])), (q4, .inl (G.2.2.1, N, .inl v1.1))]) 0 0 := by
  refine zg_of (own := RX1) (cc := cX1_isDoubtful) (nL := 4) (ret := (some .boolean)) (by decide +kernel) rfl rfl (Nat.le_of_ble_eq_true rfl) (fun Z X hF => ?_)
  show zgGd G Z _ 0 0 4 _ 0 [(0, .ref q0), (1, .ref q3), (2, .int a2), (3, .int a3)] []
  unfold zf_X1_isDoubtful at hf
  refine zg_aload_n X dX1_isDoubtful_0 rfl 0 rfl ?_
  refine zg_aload_n X dX1_isDoubtful_1 rfl 1 rfl ?_
  refine zg_iload_n X dX1_isDoubtful_2 rfl 2 rfl ?_
  refine zg_iload_n X dX1_isDoubtful_3 rfl 3 rfl ?_
  obtain ⟨b1, hb1, hf⟩ := pl_b hf
  refine zg_cP1 X (zg_runV X (zc_X1_findSegment G q0 q1 q2 q3 q4 N v0 v1 a2 a3 fu b1 hb1) gX1_isDoubtful_X1_findSegment rfl zh_X1_findSegment ⟨rfl, rfl⟩ ⟨Nat.le_of_ble_eq_true rfl, Nat.le_of_ble_eq_true rfl⟩ rfl rfl rfl (Nat.le_of_ble_eq_true rfl) ⟨Nat.le_of_ble_eq_true rfl, Nat.le_of_ble_eq_true rfl⟩ [0, 1, 2, 3, 4] (by decide) rfl rfl dX1_isDoubtful_4) rfl ?_
  refine zg_iconst (v := (-1)) X dX1_isDoubtful_7 (by decide) ?_
  refine zg_icmp_ne (tgt := 24) X dX1_isDoubtful_8 (by decide) (fun c2 => ?_) (fun c2 => ?_)
  · have hf := pl_f c2 hf
    refine zg_iconst (v := 0) X dX1_isDoubtful_24 (by decide) ?_
    have hf := Option.some.inj hf
    subst hf
    exact zg_iret X hF rfl rfl () rfl rfl (Nat.le_of_ble_eq_true rfl) (Nat.le_of_ble_eq_true rfl) dX1_isDoubtful_25
  · have hf := pl_t c2 hf
    refine zg_aload_n X dX1_isDoubtful_11 rfl 1 rfl ?_
    refine zg_iload_n X dX1_isDoubtful_12 rfl 2 rfl ?_
    refine zg_iload_n X dX1_isDoubtful_13 rfl 3 rfl ?_
    obtain ⟨b3, hb3, hf⟩ := pl_b hf
    refine zg_cP1 X (zg_runS X (zc_X1_areDigits G q3 q4 N v1 a2 a3 fu b3 hb3) gX1_isDoubtful_X1_areDigits rfl zh_X1_areDigits.2 ⟨rfl, rfl⟩ ⟨Nat.le_of_ble_eq_true rfl, Nat.le_of_ble_eq_true rfl⟩ rfl (Nat.le_of_ble_eq_true rfl) ⟨Nat.le_of_ble_eq_true rfl, Nat.le_of_ble_eq_true rfl⟩ [3, 4] (by decide) rfl rfl dX1_isDoubtful_14) rfl ?_
    refine zg_if_ne (tgt := 24) X dX1_isDoubtful_17 (by decide) (fun c4 => ?_) (fun c4 => ?_)
    · have hf := pl_f c4 hf
      refine zg_iconst (v := 0) X dX1_isDoubtful_24 (by decide) ?_
      have hf := Option.some.inj hf
      subst hf
      exact zg_iret X hF rfl rfl () rfl rfl (Nat.le_of_ble_eq_true rfl) (Nat.le_of_ble_eq_true rfl) dX1_isDoubtful_25
    · have hf := pl_t c4 hf
      refine zg_iconst (v := 1) X dX1_isDoubtful_20 (by decide) ?_
      refine zg_goto (tgt := 25) X dX1_isDoubtful_21 (by decide) ?_
      have hf := Option.some.inj hf
      subst hf
      exact zg_iret X hF rfl rfl () rfl rfl (Nat.le_of_ble_eq_true rfl) (Nat.le_of_ble_eq_true rfl) dX1_isDoubtful_25
theorem zh_X1_doubtOf : yX1_doubtOf.cls = RX1 ∧ yX1_doubtOf.cls ≠ "java/lang/invoke/MethodHandle" ∧ yX1_doubtOf.cls ≠ "java/lang/invoke/VarHandle" ∧ (parseMethodDescriptor yX1_doubtOf.desc).map (fun d => d.parameters.length) = some 3 := by decide +kernel
set_option maxHeartbeats 8000000 in
set_option maxRecDepth 100000 in
theorem zc_X1_doubtOf (G : zgG) (q0 q1 q2 q3 q4 : Nat) (N : Nat) (v0 : zRow) (v1 : zRow) (a2 : Int32) (a3 : Int32) (fu : Nat) (res : Int32) (hf : zf_X1_doubtOf fu N v0 v1 a2 a3 = some res) : zgCt G yX1_doubtOf wsX1_doubtOf ({ frames := 4, cells := 0, slots := 0, locals := 92 } : Room) [.ref q0, .ref q3, .int a2, .int a3] [(q0, .inr (0, [.ref q1])), (q1, .inr (4, [.ref q2, .int v0.2])), (q2, .inl (G.2.2.1, 20, .inl v0.1)), (q3, .inr (4, [.ref q4, .int v1.2])), (q4, .inl (G.2.2.1, N, .inl v1.1))] (fun _ : Unit => some (.int res)) (fun _ => [(q0, .inr (0, [.ref q1])), (q1, .inr (4, [.ref q2, .int v0.2])), (q2, .inl (G.2.2.1, 20, .inl v0.1)), (q3, .inr (4, [.ref q4, .int v1.2])), (q4, .inl (G.2.2.1, N, .inl v1.1))]) 0 0 := by
  refine zg_of (own := RX1) (cc := cX1_doubtOf) (nL := 4) (ret := (some .int)) (by decide +kernel) rfl rfl (Nat.le_of_ble_eq_true rfl) (fun Z X hF => ?_)
  show zgGd G Z _ 0 0 4 _ 0 [(0, .ref q0), (1, .ref q3), (2, .int a2), (3, .int a3)] []
  unfold zf_X1_doubtOf at hf
  refine zg_aload_n X dX1_doubtOf_0 rfl 0 rfl ?_
  refine zg_aload_n X dX1_doubtOf_1 rfl 1 rfl ?_
  refine zg_iload_n X dX1_doubtOf_2 rfl 2 rfl ?_
  refine zg_iload_n X dX1_doubtOf_3 rfl 3 rfl ?_
  obtain ⟨b1, hb1, hf⟩ := pl_b hf
  refine zg_cP1 X (zg_runV X (zc_X1_isDoubtful G q0 q1 q2 q3 q4 N v0 v1 a2 a3 fu b1 hb1) gX1_doubtOf_X1_isDoubtful rfl zh_X1_isDoubtful ⟨rfl, rfl⟩ ⟨Nat.le_of_ble_eq_true rfl, Nat.le_of_ble_eq_true rfl⟩ rfl rfl rfl (Nat.le_of_ble_eq_true rfl) ⟨Nat.le_of_ble_eq_true rfl, Nat.le_of_ble_eq_true rfl⟩ [0, 1, 2, 3, 4] (by decide) rfl rfl dX1_doubtOf_4) rfl ?_
  refine zg_if_eq (tgt := 14) X dX1_doubtOf_7 (by decide) (fun c2 => ?_) (fun c2 => ?_)
  · have hf := pl_t c2 hf
    refine zg_iconst (v := 0) X dX1_doubtOf_14 (by decide) ?_
    have hf := Option.some.inj hf
    subst hf
    exact zg_iret X hF rfl rfl () rfl rfl (Nat.le_of_ble_eq_true rfl) (Nat.le_of_ble_eq_true rfl) dX1_doubtOf_15
  · have hf := pl_f c2 hf
    refine zg_iconst (v := 1) X dX1_doubtOf_10 (by decide) ?_
    refine zg_goto (tgt := 15) X dX1_doubtOf_11 (by decide) ?_
    have hf := Option.some.inj hf
    subst hf
    exact zg_iret X hF rfl rfl () rfl rfl (Nat.le_of_ble_eq_true rfl) (Nat.le_of_ble_eq_true rfl) dX1_doubtOf_15
theorem zh_X1_firstRepairingCut : yX1_firstRepairingCut.cls = RX1 ∧ yX1_firstRepairingCut.cls ≠ "java/lang/invoke/MethodHandle" ∧ yX1_firstRepairingCut.cls ≠ "java/lang/invoke/VarHandle" ∧ (parseMethodDescriptor yX1_firstRepairingCut.desc).map (fun d => d.parameters.length) = some 3 := by decide +kernel
set_option maxHeartbeats 8000000 in
set_option maxRecDepth 100000 in
theorem zc_X1_firstRepairingCut (G : zgG) (q0 q1 q2 q3 q4 : Nat) (N : Nat) (v0 : zRow) (v1 : zRow) (a2 : Int32) (a3 : Int32) (fu : Nat) (res : Int32) (hf : zf_X1_firstRepairingCut fu N v0 v1 a2 a3 = some res) : zgCt G yX1_firstRepairingCut wsX1_firstRepairingCut ({ frames := 4, cells := 0, slots := 0, locals := 92 } : Room) [.ref q0, .ref q3, .int a2, .int a3] [(q0, .inr (0, [.ref q1])), (q1, .inr (4, [.ref q2, .int v0.2])), (q2, .inl (G.2.2.1, 20, .inl v0.1)), (q3, .inr (4, [.ref q4, .int v1.2])), (q4, .inl (G.2.2.1, N, .inl v1.1))] (fun _ : Unit => some (.int res)) (fun _ => [(q0, .inr (0, [.ref q1])), (q1, .inr (4, [.ref q2, .int v0.2])), (q2, .inl (G.2.2.1, 20, .inl v0.1)), (q3, .inr (4, [.ref q4, .int v1.2])), (q4, .inl (G.2.2.1, N, .inl v1.1))]) 0 0 := by
  refine zg_of (own := RX1) (cc := cX1_firstRepairingCut) (nL := 5) (ret := (some .int)) (by decide +kernel) rfl rfl (Nat.le_of_ble_eq_true rfl) (fun Z X hF => ?_)
  show zgGd G Z _ 0 0 5 _ 0 [(0, .ref q0), (1, .ref q3), (2, .int a2), (3, .int a3)] []
  have hL5 : ∀ (n : Nat) (y2 : Int32) (y3 : Int32) (y4 : Int32), zf_X1_firstRepairingCut_L5 fu N v0 v1 n y2 y3 y4 = some res → zgGd G Z ({ frames := 4, cells := 0, slots := 0, locals := 92 } : Room) 0 0 5 [(q0, .inr (0, [.ref q1])), (q1, .inr (4, [.ref q2, .int v0.2])), (q2, .inl (G.2.2.1, 20, .inl v0.1)), (q3, .inr (4, [.ref q4, .int v1.2])), (q4, .inl (G.2.2.1, N, .inl v1.1))] 5 [(0, .ref q0), (1, .ref q3), (2, .int y2), (3, .int y3), (4, .int y4)] [] := by
    intro n
    induction n with
    | zero =>
      intro y2 y3 y4 hf
      rw [zf_X1_firstRepairingCut_L5] at hf
      cases hf
    | succ n5 ih5 =>
      have hb36 : ∀ (y2 : Int32) (y3 : Int32) (y4 : Int32), zf_X1_firstRepairingCut_b36 fu N v0 v1 (zf_X1_firstRepairingCut_L5 fu N v0 v1 n5) y2 y3 y4 = some res → zgGd G Z ({ frames := 4, cells := 0, slots := 0, locals := 92 } : Room) 0 0 5 [(q0, .inr (0, [.ref q1])), (q1, .inr (4, [.ref q2, .int v0.2])), (q2, .inl (G.2.2.1, 20, .inl v0.1)), (q3, .inr (4, [.ref q4, .int v1.2])), (q4, .inl (G.2.2.1, N, .inl v1.1))] 36 [(0, .ref q0), (1, .ref q3), (2, .int y2), (3, .int y3), (4, .int y4)] [] := by
        intro y2 y3 y4 hf
        unfold zf_X1_firstRepairingCut_b36 at hf
        obtain ⟨x7, ex7, hf⟩ := pl_l hf
        refine zg_iinc (v := x7) (L' := [(4, .int x7), (0, .ref q0), (1, .ref q3), (2, .int y2), (3, .int y3)]) X dX1_firstRepairingCut_36 (j := 4) rfl (by rw [ex7]; rfl) (by decide) rfl ?_
        refine zg_goto (tgt := 5) X dX1_firstRepairingCut_39 (by decide) ?_
        refine zg_loc [1, 2, 3, 4, 0] rfl ?_
        exact ih5 y2 y3 x7 hf
      intro y2 y3 y4 hf
      rw [zf_X1_firstRepairingCut_L5] at hf
      refine zg_iload X dX1_firstRepairingCut_5 4 rfl ?_
      refine zg_iload_n X dX1_firstRepairingCut_7 rfl 3 rfl ?_
      refine zg_icmp_ge (tgt := 42) X dX1_firstRepairingCut_8 (by decide) (fun c2 => ?_) (fun c2 => ?_)
      · have hf := pl_t c2 hf
        refine zg_iconst (v := (-1)) X dX1_firstRepairingCut_42 (by decide) ?_
        have hf := Option.some.inj hf
        subst hf
        exact zg_iret X hF rfl rfl () rfl rfl (Nat.le_of_ble_eq_true rfl) (Nat.le_of_ble_eq_true rfl) dX1_firstRepairingCut_43
      · have hf := pl_f c2 hf
        refine zg_aload_n X dX1_firstRepairingCut_11 rfl 0 rfl ?_
        refine zg_aload_n X dX1_firstRepairingCut_12 rfl 1 rfl ?_
        refine zg_iload_n X dX1_firstRepairingCut_13 rfl 2 rfl ?_
        refine zg_iload X dX1_firstRepairingCut_14 4 rfl ?_
        obtain ⟨b3, hb3, hf⟩ := pl_b hf
        refine zg_cP1 X (zg_runV X (zc_X1_isDoubtful G q0 q1 q2 q3 q4 N v0 v1 y2 y4 fu b3 hb3) gX1_firstRepairingCut_X1_isDoubtful rfl zh_X1_isDoubtful ⟨rfl, rfl⟩ ⟨Nat.le_of_ble_eq_true rfl, Nat.le_of_ble_eq_true rfl⟩ rfl rfl rfl (Nat.le_of_ble_eq_true rfl) ⟨Nat.le_of_ble_eq_true rfl, Nat.le_of_ble_eq_true rfl⟩ [0, 1, 2, 3, 4] (by decide) rfl rfl dX1_firstRepairingCut_16) rfl ?_
        refine zg_if_ne (tgt := 36) X dX1_firstRepairingCut_19 (by decide) (fun c4 => ?_) (fun c4 => ?_)
        · have hf := pl_f c4 hf
          exact hb36 y2 y3 y4 hf
        · have hf := pl_t c4 hf
          refine zg_aload_n X dX1_firstRepairingCut_22 rfl 0 rfl ?_
          refine zg_aload_n X dX1_firstRepairingCut_23 rfl 1 rfl ?_
          refine zg_iload X dX1_firstRepairingCut_24 4 rfl ?_
          refine zg_iload_n X dX1_firstRepairingCut_26 rfl 3 rfl ?_
          obtain ⟨b5, hb5, hf⟩ := pl_b hf
          refine zg_cP1 X (zg_runV X (zc_X1_isDoubtful G q0 q1 q2 q3 q4 N v0 v1 y4 y3 fu b5 hb5) gX1_firstRepairingCut_X1_isDoubtful rfl zh_X1_isDoubtful ⟨rfl, rfl⟩ ⟨Nat.le_of_ble_eq_true rfl, Nat.le_of_ble_eq_true rfl⟩ rfl rfl rfl (Nat.le_of_ble_eq_true rfl) ⟨Nat.le_of_ble_eq_true rfl, Nat.le_of_ble_eq_true rfl⟩ [0, 1, 2, 3, 4] (by decide) rfl rfl dX1_firstRepairingCut_27) rfl ?_
          refine zg_if_ne (tgt := 36) X dX1_firstRepairingCut_30 (by decide) (fun c6 => ?_) (fun c6 => ?_)
          · have hf := pl_f c6 hf
            exact hb36 y2 y3 y4 hf
          · have hf := pl_t c6 hf
            refine zg_iload X dX1_firstRepairingCut_33 4 rfl ?_
            have hf := Option.some.inj hf
            subst hf
            exact zg_iret X hF rfl rfl () rfl rfl (Nat.le_of_ble_eq_true rfl) (Nat.le_of_ble_eq_true rfl) dX1_firstRepairingCut_35
  unfold zf_X1_firstRepairingCut at hf
  refine zg_iload_n X dX1_firstRepairingCut_0 rfl 2 rfl ?_
  refine zg_iconst (v := 1) X dX1_firstRepairingCut_1 (by decide) ?_
  refine zg_iadd X dX1_firstRepairingCut_2 ?_
  obtain ⟨x1, ex1, hf⟩ := pl_l hf
  refine zg_topi ex1 ?_
  refine zg_istore (L' := [(4, .int x1), (0, .ref q0), (1, .ref q3), (2, .int a2), (3, .int a3)]) X dX1_firstRepairingCut_3 (by decide) rfl ?_
  refine zg_loc [1, 2, 3, 4, 0] rfl ?_
  exact hL5 fu a2 a3 x1 hf
