theorem zh_X0_isLetter : yX0_isLetter.cls = RX0 ∧ yX0_isLetter.cls ≠ "java/lang/invoke/MethodHandle" ∧ yX0_isLetter.cls ≠ "java/lang/invoke/VarHandle" ∧ (parseMethodDescriptor yX0_isLetter.desc).map (fun d => d.parameters.length) = some 1 := by decide +kernel
set_option maxHeartbeats 8000000 in
set_option maxRecDepth 100000 in
theorem zc_X0_isLetter (G : zgG) (a0 : Int32) (fu : Nat) (res : Int32) (hf : zf_X0_isLetter fu a0 = some res) : zgCt G yX0_isLetter wsX0_isLetter ({ frames := 0, cells := 0, slots := 0, locals := 0 } : Room) [.int a0] [] (fun _ : Unit => some (.int res)) (fun _ => []) 0 0 := by
  refine zg_of (own := RX0) (cc := cX0_isLetter) (nL := 1) (ret := (some .boolean)) (by decide +kernel) rfl rfl (Nat.le_of_ble_eq_true rfl) (fun Z X hF => ?_)
  show zgGd G Z _ 0 0 1 _ 0 [(0, .int a0)] []
  unfold zf_X0_isLetter at hf
  refine zg_iload_n X dX0_isLetter_0 rfl 0 rfl ?_
  refine zg_bipush (v := 97) X dX0_isLetter_1 (by decide) ?_
  refine zg_icmp_lt (tgt := 16) X dX0_isLetter_3 (by decide) (fun c1 => ?_) (fun c1 => ?_)
  · have hf := pl_t c1 hf
    refine zg_iconst (v := 0) X dX0_isLetter_16 (by decide) ?_
    have hf := Option.some.inj hf
    subst hf
    exact zg_iret X hF rfl rfl () rfl rfl (Nat.le_of_ble_eq_true rfl) (Nat.le_of_ble_eq_true rfl) dX0_isLetter_17
  · have hf := pl_f c1 hf
    refine zg_iload_n X dX0_isLetter_6 rfl 0 rfl ?_
    refine zg_bipush (v := 122) X dX0_isLetter_7 (by decide) ?_
    refine zg_icmp_gt (tgt := 16) X dX0_isLetter_9 (by decide) (fun c2 => ?_) (fun c2 => ?_)
    · have hf := pl_t c2 hf
      refine zg_iconst (v := 0) X dX0_isLetter_16 (by decide) ?_
      have hf := Option.some.inj hf
      subst hf
      exact zg_iret X hF rfl rfl () rfl rfl (Nat.le_of_ble_eq_true rfl) (Nat.le_of_ble_eq_true rfl) dX0_isLetter_17
    · have hf := pl_f c2 hf
      refine zg_iconst (v := 1) X dX0_isLetter_12 (by decide) ?_
      refine zg_goto (tgt := 17) X dX0_isLetter_13 (by decide) ?_
      have hf := Option.some.inj hf
      subst hf
      exact zg_iret X hF rfl rfl () rfl rfl (Nat.le_of_ble_eq_true rfl) (Nat.le_of_ble_eq_true rfl) dX0_isLetter_17
theorem zh_X0_isSign : yX0_isSign.cls = RX0 ∧ yX0_isSign.cls ≠ "java/lang/invoke/MethodHandle" ∧ yX0_isSign.cls ≠ "java/lang/invoke/VarHandle" ∧ (parseMethodDescriptor yX0_isSign.desc).map (fun d => d.parameters.length) = some 1 := by decide +kernel
set_option maxHeartbeats 8000000 in
set_option maxRecDepth 100000 in
theorem zc_X0_isSign (G : zgG) (a0 : Int32) (fu : Nat) (res : Int32) (hf : zf_X0_isSign fu a0 = some res) : zgCt G yX0_isSign wsX0_isSign ({ frames := 0, cells := 0, slots := 0, locals := 0 } : Room) [.int a0] [] (fun _ : Unit => some (.int res)) (fun _ => []) 0 0 := by
  refine zg_of (own := RX0) (cc := cX0_isSign) (nL := 1) (ret := (some .boolean)) (by decide +kernel) rfl rfl (Nat.le_of_ble_eq_true rfl) (fun Z X hF => ?_)
  show zgGd G Z _ 0 0 1 _ 0 [(0, .int a0)] []
  unfold zf_X0_isSign at hf
  refine zg_iload_n X dX0_isSign_0 rfl 0 rfl ?_
  refine zg_iconst (v := 1) X dX0_isSign_1 (by decide) ?_
  refine zg_icmp_lt (tgt := 15) X dX0_isSign_2 (by decide) (fun c1 => ?_) (fun c1 => ?_)
  · have hf := pl_t c1 hf
    refine zg_iconst (v := 0) X dX0_isSign_15 (by decide) ?_
    have hf := Option.some.inj hf
    subst hf
    exact zg_iret X hF rfl rfl () rfl rfl (Nat.le_of_ble_eq_true rfl) (Nat.le_of_ble_eq_true rfl) dX0_isSign_16
  · have hf := pl_f c1 hf
    refine zg_iload_n X dX0_isSign_5 rfl 0 rfl ?_
    refine zg_bipush (v := 26) X dX0_isSign_6 (by decide) ?_
    refine zg_icmp_gt (tgt := 15) X dX0_isSign_8 (by decide) (fun c2 => ?_) (fun c2 => ?_)
    · have hf := pl_t c2 hf
      refine zg_iconst (v := 0) X dX0_isSign_15 (by decide) ?_
      have hf := Option.some.inj hf
      subst hf
      exact zg_iret X hF rfl rfl () rfl rfl (Nat.le_of_ble_eq_true rfl) (Nat.le_of_ble_eq_true rfl) dX0_isSign_16
    · have hf := pl_f c2 hf
      refine zg_iconst (v := 1) X dX0_isSign_11 (by decide) ?_
      refine zg_goto (tgt := 16) X dX0_isSign_12 (by decide) ?_
      have hf := Option.some.inj hf
      subst hf
      exact zg_iret X hF rfl rfl () rfl rfl (Nat.le_of_ble_eq_true rfl) (Nat.le_of_ble_eq_true rfl) dX0_isSign_16
theorem zh_X0_isDigit : yX0_isDigit.cls = RX0 ∧ yX0_isDigit.cls ≠ "java/lang/invoke/MethodHandle" ∧ yX0_isDigit.cls ≠ "java/lang/invoke/VarHandle" ∧ (parseMethodDescriptor yX0_isDigit.desc).map (fun d => d.parameters.length) = some 1 := by decide +kernel
set_option maxHeartbeats 8000000 in
set_option maxRecDepth 100000 in
theorem zc_X0_isDigit (G : zgG) (a0 : Int32) (fu : Nat) (res : Int32) (hf : zf_X0_isDigit fu a0 = some res) : zgCt G yX0_isDigit wsX0_isDigit ({ frames := 0, cells := 0, slots := 0, locals := 0 } : Room) [.int a0] [] (fun _ : Unit => some (.int res)) (fun _ => []) 0 0 := by
  refine zg_of (own := RX0) (cc := cX0_isDigit) (nL := 1) (ret := (some .boolean)) (by decide +kernel) rfl rfl (Nat.le_of_ble_eq_true rfl) (fun Z X hF => ?_)
  show zgGd G Z _ 0 0 1 _ 0 [(0, .int a0)] []
  unfold zf_X0_isDigit at hf
  refine zg_iload_n X dX0_isDigit_0 rfl 0 rfl ?_
  refine zg_iconst (v := 1) X dX0_isDigit_1 (by decide) ?_
  refine zg_icmp_lt (tgt := 15) X dX0_isDigit_2 (by decide) (fun c1 => ?_) (fun c1 => ?_)
  · have hf := pl_t c1 hf
    refine zg_iconst (v := 0) X dX0_isDigit_15 (by decide) ?_
    have hf := Option.some.inj hf
    subst hf
    exact zg_iret X hF rfl rfl () rfl rfl (Nat.le_of_ble_eq_true rfl) (Nat.le_of_ble_eq_true rfl) dX0_isDigit_16
  · have hf := pl_f c1 hf
    refine zg_iload_n X dX0_isDigit_5 rfl 0 rfl ?_
    refine zg_bipush (v := 10) X dX0_isDigit_6 (by decide) ?_
    refine zg_icmp_gt (tgt := 15) X dX0_isDigit_8 (by decide) (fun c2 => ?_) (fun c2 => ?_)
    · have hf := pl_t c2 hf
      refine zg_iconst (v := 0) X dX0_isDigit_15 (by decide) ?_
      have hf := Option.some.inj hf
      subst hf
      exact zg_iret X hF rfl rfl () rfl rfl (Nat.le_of_ble_eq_true rfl) (Nat.le_of_ble_eq_true rfl) dX0_isDigit_16
    · have hf := pl_f c2 hf
      refine zg_iconst (v := 1) X dX0_isDigit_11 (by decide) ?_
      refine zg_goto (tgt := 16) X dX0_isDigit_12 (by decide) ?_
      have hf := Option.some.inj hf
      subst hf
      exact zg_iret X hF rfl rfl () rfl rfl (Nat.le_of_ble_eq_true rfl) (Nat.le_of_ble_eq_true rfl) dX0_isDigit_16
theorem zh_X0_codeOfFigure : yX0_codeOfFigure.cls = RX0 ∧ yX0_codeOfFigure.cls ≠ "java/lang/invoke/MethodHandle" ∧ yX0_codeOfFigure.cls ≠ "java/lang/invoke/VarHandle" ∧ (parseMethodDescriptor yX0_codeOfFigure.desc).map (fun d => d.parameters.length) = some 1 := by decide +kernel
set_option maxHeartbeats 8000000 in
set_option maxRecDepth 100000 in
theorem zc_X0_codeOfFigure (G : zgG) (a0 : Int32) (fu : Nat) (res : Int32) (hf : zf_X0_codeOfFigure fu a0 = some res) : zgCt G yX0_codeOfFigure wsX0_codeOfFigure ({ frames := 4, cells := 0, slots := 0, locals := 91 } : Room) [.int a0] [] (fun _ : Unit => some (.int res)) (fun _ => []) 0 0 := by
  refine zg_of (own := RX0) (cc := cX0_codeOfFigure) (nL := 2) (ret := (some .int)) (by decide +kernel) rfl rfl (Nat.le_of_ble_eq_true rfl) (fun Z X hF => ?_)
  show zgGd G Z _ 0 0 2 _ 0 [(0, .int a0)] []
  unfold zf_X0_codeOfFigure at hf
  refine zg_iload_n X dX0_codeOfFigure_0 rfl 0 rfl ?_
  refine zg_if_lt (tgt := 10) X dX0_codeOfFigure_1 (by decide) (fun c1 => ?_) (fun c1 => ?_)
  · have hf := pl_t c1 hf
    refine zg_iconst (v := (-1)) X dX0_codeOfFigure_10 (by decide) ?_
    have hf := Option.some.inj hf
    subst hf
    exact zg_iret X hF rfl rfl () rfl rfl (Nat.le_of_ble_eq_true rfl) (Nat.le_of_ble_eq_true rfl) dX0_codeOfFigure_11
  · have hf := pl_f c1 hf
    refine zg_iload_n X dX0_codeOfFigure_4 rfl 0 rfl ?_
    refine zg_bipush (v := 127) X dX0_codeOfFigure_5 (by decide) ?_
    refine zg_icmp_le (tgt := 12) X dX0_codeOfFigure_7 (by decide) (fun c2 => ?_) (fun c2 => ?_)
    · have hf := pl_t c2 hf
      refine zg_ldcK X dX0_codeOfFigure_12 ?_
      refine zg_iload_n X dX0_codeOfFigure_14 rfl 0 rfl ?_
      refine zg_i2c X dX0_codeOfFigure_15 ?_
      obtain ⟨b3, hb3, hf⟩ := pl_b hf
      refine zg_cP1 X (zg_runVK X (zc_J0_indexOf_0f7a4 G ((a0.toUInt32 % 65536).toInt32) fu b3 hb3) gX0_codeOfFigure_J0_indexOf_0f7a4 rfl zh_J0_indexOf_0f7a4 ⟨rfl, rfl⟩ ⟨Nat.le_of_ble_eq_true rfl, Nat.le_of_ble_eq_true rfl⟩ rfl (Nat.le_of_ble_eq_true rfl) ⟨Nat.le_of_ble_eq_true rfl, Nat.le_of_ble_eq_true rfl⟩ [] (by decide) rfl rfl dX0_codeOfFigure_16) rfl ?_
      refine zg_istore_n (L' := [(1, .int b3), (0, .int a0)]) X dX0_codeOfFigure_19 rfl (by decide) rfl ?_
      refine zg_iload_n X dX0_codeOfFigure_20 rfl 0 rfl ?_
      refine zg_if_ge (tgt := 28) X dX0_codeOfFigure_21 (by decide) (fun c4 => ?_) (fun c4 => ?_)
      · have hf := pl_t c4 hf
        refine zg_iload_n X dX0_codeOfFigure_28 rfl 0 rfl ?_
        refine zg_iconst (v := 1) X dX0_codeOfFigure_29 (by decide) ?_
        refine zg_iadd X dX0_codeOfFigure_30 ?_
        obtain ⟨x5, ex5, hf⟩ := pl_l hf
        refine zg_topi ex5 ?_
        have hf := Option.some.inj hf
        subst hf
        exact zg_iret X hF rfl rfl () rfl rfl (Nat.le_of_ble_eq_true rfl) (Nat.le_of_ble_eq_true rfl) dX0_codeOfFigure_31
      · have hf := pl_f c4 hf
        refine zg_iconst (v := (-1)) X dX0_codeOfFigure_24 (by decide) ?_
        refine zg_goto (tgt := 31) X dX0_codeOfFigure_25 (by decide) ?_
        have hf := Option.some.inj hf
        subst hf
        exact zg_iret X hF rfl rfl () rfl rfl (Nat.le_of_ble_eq_true rfl) (Nat.le_of_ble_eq_true rfl) dX0_codeOfFigure_31
    · have hf := pl_f c2 hf
      refine zg_iconst (v := (-1)) X dX0_codeOfFigure_10 (by decide) ?_
      have hf := Option.some.inj hf
      subst hf
      exact zg_iret X hF rfl rfl () rfl rfl (Nat.le_of_ble_eq_true rfl) (Nat.le_of_ble_eq_true rfl) dX0_codeOfFigure_11
theorem zh_X0_codeOf : yX0_codeOf.cls = RX0 ∧ yX0_codeOf.cls ≠ "java/lang/invoke/MethodHandle" ∧ yX0_codeOf.cls ≠ "java/lang/invoke/VarHandle" ∧ (parseMethodDescriptor yX0_codeOf.desc).map (fun d => d.parameters.length) = some 1 := by decide +kernel
set_option maxHeartbeats 8000000 in
set_option maxRecDepth 100000 in
theorem zc_X0_codeOf (G : zgG) (a0 : Int32) (fu : Nat) (res : Int32) (hf : zf_X0_codeOf fu a0 = some res) : zgCt G yX0_codeOf wsX0_codeOf ({ frames := 5, cells := 0, slots := 0, locals := 112 } : Room) [.int a0] [] (fun _ : Unit => some (.int res)) (fun _ => []) 0 0 := by
  refine zg_of (own := RX0) (cc := cX0_codeOf) (nL := 1) (ret := (some .int)) (by decide +kernel) rfl rfl (Nat.le_of_ble_eq_true rfl) (fun Z X hF => ?_)
  show zgGd G Z _ 0 0 1 _ 0 [(0, .int a0)] []
  unfold zf_X0_codeOf at hf
  refine zg_iload_n X dX0_codeOf_0 rfl 0 rfl ?_
  obtain ⟨b1, hb1, hf⟩ := pl_b hf
  refine zg_cP1 X (zg_runS X (zc_X0_isLetter G a0 fu b1 hb1) gX0_codeOf_X0_isLetter rfl zh_X0_isLetter.2 ⟨rfl, rfl⟩ ⟨Nat.le_of_ble_eq_true rfl, Nat.le_of_ble_eq_true rfl⟩ rfl (Nat.le_of_ble_eq_true rfl) ⟨Nat.le_of_ble_eq_true rfl, Nat.le_of_ble_eq_true rfl⟩ [] (by decide) rfl rfl dX0_codeOf_1) rfl ?_
  refine zg_if_eq (tgt := 14) X dX0_codeOf_4 (by decide) (fun c2 => ?_) (fun c2 => ?_)
  · have hf := pl_t c2 hf
    refine zg_iload_n X dX0_codeOf_14 rfl 0 rfl ?_
    refine zg_bipush (v := 32) X dX0_codeOf_15 (by decide) ?_
    refine zg_icmp_ne (tgt := 23) X dX0_codeOf_17 (by decide) (fun c3 => ?_) (fun c3 => ?_)
    · have hf := pl_f c3 hf
      refine zg_iload_n X dX0_codeOf_23 rfl 0 rfl ?_
      refine zg_bipush (v := 10) X dX0_codeOf_24 (by decide) ?_
      refine zg_icmp_ne (tgt := 32) X dX0_codeOf_26 (by decide) (fun c4 => ?_) (fun c4 => ?_)
      · have hf := pl_f c4 hf
        refine zg_iload_n X dX0_codeOf_32 rfl 0 rfl ?_
        refine zg_bipush (v := 64) X dX0_codeOf_33 (by decide) ?_
        refine zg_icmp_eq (tgt := 44) X dX0_codeOf_35 (by decide) (fun c5 => ?_) (fun c5 => ?_)
        · have hf := pl_t c5 hf
          refine zg_bipush (v := 29) X dX0_codeOf_44 (by decide) ?_
          have hf := Option.some.inj hf
          subst hf
          exact zg_iret X hF rfl rfl () rfl rfl (Nat.le_of_ble_eq_true rfl) (Nat.le_of_ble_eq_true rfl) dX0_codeOf_46
        · have hf := pl_f c5 hf
          refine zg_iload_n X dX0_codeOf_38 rfl 0 rfl ?_
          refine zg_bipush (v := 35) X dX0_codeOf_39 (by decide) ?_
          refine zg_icmp_ne (tgt := 47) X dX0_codeOf_41 (by decide) (fun c6 => ?_) (fun c6 => ?_)
          · have hf := pl_f c6 hf
            refine zg_iload_n X dX0_codeOf_47 rfl 0 rfl ?_
            obtain ⟨b7, hb7, hf⟩ := pl_b hf
            refine zg_cP1 X (zg_runS X (zc_X0_codeOfFigure G a0 fu b7 hb7) gX0_codeOf_X0_codeOfFigure rfl zh_X0_codeOfFigure.2 ⟨rfl, rfl⟩ ⟨Nat.le_of_ble_eq_true rfl, Nat.le_of_ble_eq_true rfl⟩ rfl (Nat.le_of_ble_eq_true rfl) ⟨Nat.le_of_ble_eq_true rfl, Nat.le_of_ble_eq_true rfl⟩ [] (by decide) rfl rfl dX0_codeOf_48) rfl ?_
            have hf := Option.some.inj hf
            subst hf
            exact zg_iret X hF rfl rfl () rfl rfl (Nat.le_of_ble_eq_true rfl) (Nat.le_of_ble_eq_true rfl) dX0_codeOf_51
          · have hf := pl_t c6 hf
            refine zg_bipush (v := 29) X dX0_codeOf_44 (by decide) ?_
            have hf := Option.some.inj hf
            subst hf
            exact zg_iret X hF rfl rfl () rfl rfl (Nat.le_of_ble_eq_true rfl) (Nat.le_of_ble_eq_true rfl) dX0_codeOf_46
      · have hf := pl_t c4 hf
        refine zg_bipush (v := 28) X dX0_codeOf_29 (by decide) ?_
        have hf := Option.some.inj hf
        subst hf
        exact zg_iret X hF rfl rfl () rfl rfl (Nat.le_of_ble_eq_true rfl) (Nat.le_of_ble_eq_true rfl) dX0_codeOf_31
    · have hf := pl_t c3 hf
      refine zg_bipush (v := 27) X dX0_codeOf_20 (by decide) ?_
      have hf := Option.some.inj hf
      subst hf
      exact zg_iret X hF rfl rfl () rfl rfl (Nat.le_of_ble_eq_true rfl) (Nat.le_of_ble_eq_true rfl) dX0_codeOf_22
  · have hf := pl_f c2 hf
    refine zg_iload_n X dX0_codeOf_7 rfl 0 rfl ?_
    refine zg_bipush (v := 97) X dX0_codeOf_8 (by decide) ?_
    refine zg_isub X dX0_codeOf_10 ?_
    refine zg_iconst (v := 1) X dX0_codeOf_11 (by decide) ?_
    refine zg_iadd X dX0_codeOf_12 ?_
    obtain ⟨x8, ex8, hf⟩ := pl_l hf
    refine zg_topi ex8 ?_
    have hf := Option.some.inj hf
    subst hf
    exact zg_iret X hF rfl rfl () rfl rfl (Nat.le_of_ble_eq_true rfl) (Nat.le_of_ble_eq_true rfl) dX0_codeOf_13
theorem zh_X0_shiftFor : yX0_shiftFor.cls = RX0 ∧ yX0_shiftFor.cls ≠ "java/lang/invoke/MethodHandle" ∧ yX0_shiftFor.cls ≠ "java/lang/invoke/VarHandle" ∧ (parseMethodDescriptor yX0_shiftFor.desc).map (fun d => d.parameters.length) = some 1 := by decide +kernel
set_option maxHeartbeats 8000000 in
set_option maxRecDepth 100000 in
theorem zc_X0_shiftFor (G : zgG) (a0 : Int32) (fu : Nat) (res : Int32) (hf : zf_X0_shiftFor fu a0 = some res) : zgCt G yX0_shiftFor wsX0_shiftFor ({ frames := 1, cells := 0, slots := 0, locals := 20 } : Room) [.int a0] [] (fun _ : Unit => some (.int res)) (fun _ => []) 0 0 := by
  refine zg_of (own := RX0) (cc := cX0_shiftFor) (nL := 1) (ret := (some .int)) (by decide +kernel) rfl rfl (Nat.le_of_ble_eq_true rfl) (fun Z X hF => ?_)
  show zgGd G Z _ 0 0 1 _ 0 [(0, .int a0)] []
  have hb27 : zf_X0_shiftFor_b27 fu = some res → zgGd G Z ({ frames := 1, cells := 0, slots := 0, locals := 20 } : Room) 0 0 1 [] 27 [] [] := by
    intro hf
    unfold zf_X0_shiftFor_b27 at hf
    refine zg_iconst (v := 0) X dX0_shiftFor_27 (by decide) ?_
    refine zg_goto (tgt := 32) X dX0_shiftFor_28 (by decide) ?_
    have hf := Option.some.inj hf
    subst hf
    exact zg_iret X hF rfl rfl () rfl rfl (Nat.le_of_ble_eq_true rfl) (Nat.le_of_ble_eq_true rfl) dX0_shiftFor_32
  unfold zf_X0_shiftFor at hf
  refine zg_iload_n X dX0_shiftFor_0 rfl 0 rfl ?_
  refine zg_bipush (v := 32) X dX0_shiftFor_1 (by decide) ?_
  refine zg_icmp_eq (tgt := 12) X dX0_shiftFor_3 (by decide) (fun c1 => ?_) (fun c1 => ?_)
  · have hf := pl_t c1 hf
    refine zg_iconst (v := (-1)) X dX0_shiftFor_12 (by decide) ?_
    have hf := Option.some.inj hf
    subst hf
    exact zg_iret X hF rfl rfl () rfl rfl (Nat.le_of_ble_eq_true rfl) (Nat.le_of_ble_eq_true rfl) dX0_shiftFor_13
  · have hf := pl_f c1 hf
    refine zg_iload_n X dX0_shiftFor_6 rfl 0 rfl ?_
    refine zg_bipush (v := 10) X dX0_shiftFor_7 (by decide) ?_
    refine zg_icmp_ne (tgt := 14) X dX0_shiftFor_9 (by decide) (fun c2 => ?_) (fun c2 => ?_)
    · have hf := pl_f c2 hf
      refine zg_iload_n X dX0_shiftFor_14 rfl 0 rfl ?_
      obtain ⟨b3, hb3, hf⟩ := pl_b hf
      refine zg_cP1 X (zg_runS X (zc_X0_isLetter G a0 fu b3 hb3) gX0_shiftFor_X0_isLetter rfl zh_X0_isLetter.2 ⟨rfl, rfl⟩ ⟨Nat.le_of_ble_eq_true rfl, Nat.le_of_ble_eq_true rfl⟩ rfl (Nat.le_of_ble_eq_true rfl) ⟨Nat.le_of_ble_eq_true rfl, Nat.le_of_ble_eq_true rfl⟩ [] (by decide) rfl rfl dX0_shiftFor_15) rfl ?_
      refine zg_if_ne (tgt := 27) X dX0_shiftFor_18 (by decide) (fun c4 => ?_) (fun c4 => ?_)
      · have hf := pl_f c4 hf
        refine zg_loc [] rfl ?_
        exact hb27 hf
      · have hf := pl_t c4 hf
        refine zg_iload_n X dX0_shiftFor_21 rfl 0 rfl ?_
        refine zg_bipush (v := 64) X dX0_shiftFor_22 (by decide) ?_
        refine zg_icmp_ne (tgt := 31) X dX0_shiftFor_24 (by decide) (fun c5 => ?_) (fun c5 => ?_)
        · have hf := pl_f c5 hf
          refine zg_iconst (v := 1) X dX0_shiftFor_31 (by decide) ?_
          have hf := Option.some.inj hf
          subst hf
          exact zg_iret X hF rfl rfl () rfl rfl (Nat.le_of_ble_eq_true rfl) (Nat.le_of_ble_eq_true rfl) dX0_shiftFor_32
        · have hf := pl_t c5 hf
          refine zg_loc [] rfl ?_
          exact hb27 hf
    · have hf := pl_t c2 hf
      refine zg_iconst (v := (-1)) X dX0_shiftFor_12 (by decide) ?_
      have hf := Option.some.inj hf
      subst hf
      exact zg_iret X hF rfl rfl () rfl rfl (Nat.le_of_ble_eq_true rfl) (Nat.le_of_ble_eq_true rfl) dX0_shiftFor_13
theorem zh_X0_characterOf : yX0_characterOf.cls = RX0 ∧ yX0_characterOf.cls ≠ "java/lang/invoke/MethodHandle" ∧ yX0_characterOf.cls ≠ "java/lang/invoke/VarHandle" ∧ (parseMethodDescriptor yX0_characterOf.desc).map (fun d => d.parameters.length) = some 2 := by decide +kernel
set_option maxHeartbeats 8000000 in
set_option maxRecDepth 100000 in
theorem zc_X0_characterOf (G : zgG) (a0 : Int32) (a1 : Int32) (fu : Nat) (res : Int32) (hf : zf_X0_characterOf fu a0 a1 = some res) : zgCt G yX0_characterOf wsX0_characterOf ({ frames := 4, cells := 0, slots := 0, locals := 85 } : Room) [.int a0, .int a1] [] (fun _ : Unit => some (.int res)) (fun _ => []) 0 0 := by
  refine zg_of (own := RX0) (cc := cX0_characterOf) (nL := 3) (ret := (some .int)) (by decide +kernel) rfl rfl (Nat.le_of_ble_eq_true rfl) (fun Z X hF => ?_)
  show zgGd G Z _ 0 0 3 _ 0 [(0, .int a0), (1, .int a1)] []
  unfold zf_X0_characterOf at hf
  refine zg_iload_n X dX0_characterOf_0 rfl 0 rfl ?_
  refine zg_bipush (v := 27) X dX0_characterOf_1 (by decide) ?_
  refine zg_icmp_ne (tgt := 9) X dX0_characterOf_3 (by decide) (fun c1 => ?_) (fun c1 => ?_)
  · have hf := pl_f c1 hf
    refine zg_iload_n X dX0_characterOf_9 rfl 0 rfl ?_
    refine zg_bipush (v := 28) X dX0_characterOf_10 (by decide) ?_
    refine zg_icmp_ne (tgt := 18) X dX0_characterOf_12 (by decide) (fun c2 => ?_) (fun c2 => ?_)
    · have hf := pl_f c2 hf
      refine zg_iload_n X dX0_characterOf_18 rfl 0 rfl ?_
      refine zg_iconst (v := 1) X dX0_characterOf_19 (by decide) ?_
      refine zg_isub X dX0_characterOf_20 ?_
      obtain ⟨x3, ex3, hf⟩ := pl_l hf
      refine zg_topi ex3 ?_
      refine zg_istore_n (L' := [(2, .int x3), (0, .int a0), (1, .int a1)]) X dX0_characterOf_21 rfl (by decide) rfl ?_
      refine zg_iload_n X dX0_characterOf_22 rfl 1 rfl ?_
      obtain ⟨b4, hb4, hf⟩ := pl_b hf
      refine zg_cP1 X (zg_runS X (zc_X0_isSign G a0 fu b4 hb4) gX0_characterOf_X0_isSign rfl zh_X0_isSign.2 ⟨rfl, rfl⟩ ⟨Nat.le_of_ble_eq_true rfl, Nat.le_of_ble_eq_true rfl⟩ rfl (Nat.le_of_ble_eq_true rfl) ⟨Nat.le_of_ble_eq_true rfl, Nat.le_of_ble_eq_true rfl⟩ [] (by decide) rfl rfl dX0_characterOf_23) rfl ?_
      refine zg_if_eq (tgt := 42) X dX0_characterOf_26 (by decide) (fun c5 => ?_) (fun c5 => ?_)
      · have hf := pl_t c5 hf
        refine zg_iconst (v := (-1)) X dX0_characterOf_42 (by decide) ?_
        have hf := Option.some.inj hf
        subst hf
        exact zg_iret X hF rfl rfl () rfl rfl (Nat.le_of_ble_eq_true rfl) (Nat.le_of_ble_eq_true rfl) dX0_characterOf_43
      · have hf := pl_f c5 hf
        refine zg_iload_n X dX0_characterOf_29 rfl 0 rfl ?_
        refine zg_if_lt (tgt := 42) X dX0_characterOf_30 (by decide) (fun c6 => ?_) (fun c6 => ?_)
        · have hf := pl_t c6 hf
          refine zg_iconst (v := (-1)) X dX0_characterOf_42 (by decide) ?_
          have hf := Option.some.inj hf
          subst hf
          exact zg_iret X hF rfl rfl () rfl rfl (Nat.le_of_ble_eq_true rfl) (Nat.le_of_ble_eq_true rfl) dX0_characterOf_43
        · have hf := pl_f c6 hf
          refine zg_iload_n X dX0_characterOf_33 rfl 0 rfl ?_
          refine zg_ldcK X dX0_characterOf_34 ?_
          obtain ⟨b7, hb7, hf⟩ := pl_b hf
          refine zg_cP1 X (zg_runVK X (zc_J0_length_8abf5 G  fu b7 hb7) gX0_characterOf_J0_length_8abf5 rfl zh_J0_length_8abf5 ⟨rfl, rfl⟩ ⟨Nat.le_of_ble_eq_true rfl, Nat.le_of_ble_eq_true rfl⟩ rfl (Nat.le_of_ble_eq_true rfl) ⟨Nat.le_of_ble_eq_true rfl, Nat.le_of_ble_eq_true rfl⟩ [] (by decide) rfl rfl dX0_characterOf_36) rfl ?_
          refine zg_icmp_lt (tgt := 44) X dX0_characterOf_39 (by decide) (fun c8 => ?_) (fun c8 => ?_)
          · have hf := pl_t c8 hf
            refine zg_iload_n X dX0_characterOf_44 rfl 2 rfl ?_
            refine zg_if_ne (tgt := 55) X dX0_characterOf_45 (by decide) (fun c9 => ?_) (fun c9 => ?_)
            · have hf := pl_f c9 hf
              refine zg_ldcK X dX0_characterOf_55 ?_
              refine zg_iload_n X dX0_characterOf_57 rfl 0 rfl ?_
              obtain ⟨b10, hb10, hf⟩ := pl_b hf
              refine zg_cP1 X (zg_runVK X (zc_J0_charAt_5068e G x3 fu b10 hb10) gX0_characterOf_J0_charAt_5068e rfl zh_J0_charAt_5068e ⟨rfl, rfl⟩ ⟨Nat.le_of_ble_eq_true rfl, Nat.le_of_ble_eq_true rfl⟩ rfl (Nat.le_of_ble_eq_true rfl) ⟨Nat.le_of_ble_eq_true rfl, Nat.le_of_ble_eq_true rfl⟩ [] (by decide) rfl rfl dX0_characterOf_58) rfl ?_
              have hf := Option.some.inj hf
              subst hf
              exact zg_iret X hF rfl rfl () rfl rfl (Nat.le_of_ble_eq_true rfl) (Nat.le_of_ble_eq_true rfl) dX0_characterOf_61
            · have hf := pl_t c9 hf
              refine zg_bipush (v := 97) X dX0_characterOf_48 (by decide) ?_
              refine zg_iload_n X dX0_characterOf_50 rfl 0 rfl ?_
              refine zg_iadd X dX0_characterOf_51 ?_
              refine zg_goto (tgt := 61) X dX0_characterOf_52 (by decide) ?_
              obtain ⟨x11, ex11, hf⟩ := pl_l hf
              refine zg_topi ex11 ?_
              have hf := Option.some.inj hf
              subst hf
              exact zg_iret X hF rfl rfl () rfl rfl (Nat.le_of_ble_eq_true rfl) (Nat.le_of_ble_eq_true rfl) dX0_characterOf_61
          · have hf := pl_f c8 hf
            refine zg_iconst (v := (-1)) X dX0_characterOf_42 (by decide) ?_
            have hf := Option.some.inj hf
            subst hf
            exact zg_iret X hF rfl rfl () rfl rfl (Nat.le_of_ble_eq_true rfl) (Nat.le_of_ble_eq_true rfl) dX0_characterOf_43
    · have hf := pl_t c2 hf
      refine zg_bipush (v := 10) X dX0_characterOf_15 (by decide) ?_
      have hf := Option.some.inj hf
      subst hf
      exact zg_iret X hF rfl rfl () rfl rfl (Nat.le_of_ble_eq_true rfl) (Nat.le_of_ble_eq_true rfl) dX0_characterOf_17
  · have hf := pl_t c1 hf
    refine zg_bipush (v := 32) X dX0_characterOf_6 (by decide) ?_
    have hf := Option.some.inj hf
    subst hf
    exact zg_iret X hF rfl rfl () rfl rfl (Nat.le_of_ble_eq_true rfl) (Nat.le_of_ble_eq_true rfl) dX0_characterOf_8
theorem zh_X0_startOfSigns : yX0_startOfSigns.cls = RX0 ∧ yX0_startOfSigns.cls ≠ "java/lang/invoke/MethodHandle" ∧ yX0_startOfSigns.cls ≠ "java/lang/invoke/VarHandle" ∧ (parseMethodDescriptor yX0_startOfSigns.desc).map (fun d => d.parameters.length) = some 2 := by decide +kernel
set_option maxHeartbeats 8000000 in
set_option maxRecDepth 100000 in
theorem zc_X0_startOfSigns (G : zgG) (q0 q1 : Nat) (N : Nat) (v0 : zRow) (a1 : Int32) (fu : Nat) (res : Int32) (hf : zf_X0_startOfSigns fu N v0 a1 = some res) : zgCt G yX0_startOfSigns wsX0_startOfSigns ({ frames := 1, cells := 0, slots := 0, locals := 21 } : Room) [.ref q0, .int a1] [(q0, .inr (4, [.ref q1, .int v0.2])), (q1, .inl (G.2.2.1, N, .inl v0.1))] (fun _ : Unit => some (.int res)) (fun _ => [(q0, .inr (4, [.ref q1, .int v0.2])), (q1, .inl (G.2.2.1, N, .inl v0.1))]) 0 0 := by
  refine zg_of (own := RX0) (cc := cX0_startOfSigns) (nL := 3) (ret := (some .int)) (by decide +kernel) rfl rfl (Nat.le_of_ble_eq_true rfl) (fun Z X hF => ?_)
  show zgGd G Z _ 0 0 3 _ 0 [(0, .ref q0), (1, .int a1)] []
  have hL2 : ∀ (n : Nat) (y2 : Int32), zf_X0_startOfSigns_L2 fu N v0 n y2 = some res → zgGd G Z ({ frames := 1, cells := 0, slots := 0, locals := 21 } : Room) 0 0 3 [(q0, .inr (4, [.ref q1, .int v0.2])), (q1, .inl (G.2.2.1, N, .inl v0.1))] 2 [(0, .ref q0), (2, .int y2)] [] := by
    intro n
    induction n with
    | zero =>
      intro y2 hf
      rw [zf_X0_startOfSigns_L2] at hf
      cases hf
    | succ n2 ih2 =>
      intro y2 hf
      rw [zf_X0_startOfSigns_L2] at hf
      refine zg_iload_n X dX0_startOfSigns_2 rfl 1 rfl ?_
      refine zg_if_le (tgt := 27) X dX0_startOfSigns_3 (by decide) (fun c1 => ?_) (fun c1 => ?_)
      · have hf := pl_t c1 hf
        refine zg_iconst (v := 0) X dX0_startOfSigns_27 (by decide) ?_
        have hf := Option.some.inj hf
        subst hf
        exact zg_iret X hF rfl rfl () rfl rfl (Nat.le_of_ble_eq_true rfl) (Nat.le_of_ble_eq_true rfl) dX0_startOfSigns_28
      · have hf := pl_f c1 hf
        refine zg_aload_n X dX0_startOfSigns_6 rfl 0 rfl ?_
        refine zg_iload_n X dX0_startOfSigns_7 rfl 1 rfl ?_
        refine zg_iconst (v := 1) X dX0_startOfSigns_8 (by decide) ?_
        refine zg_isub X dX0_startOfSigns_9 ?_
        obtain ⟨b2, hb2, hf⟩ := pl_b hf
        refine zg_cP1 X (zg_runV X (zc_X5_at G q0 q1 N v0 (y2 - (1 : Int32)) fu b2 hb2) gX0_startOfSigns_X5_at rfl zh_X5_at ⟨rfl, rfl⟩ ⟨Nat.le_of_ble_eq_true rfl, Nat.le_of_ble_eq_true rfl⟩ rfl rfl rfl (Nat.le_of_ble_eq_true rfl) ⟨Nat.le_of_ble_eq_true rfl, Nat.le_of_ble_eq_true rfl⟩ [0, 1] (by decide) rfl rfl dX0_startOfSigns_10) rfl ?_
        obtain ⟨b3, hb3, hf⟩ := pl_b hf
        refine zg_cP1 X (zg_runS X (zc_X0_isSign G b2 fu b3 hb3) gX0_startOfSigns_X0_isSign rfl zh_X0_isSign.2 ⟨rfl, rfl⟩ ⟨Nat.le_of_ble_eq_true rfl, Nat.le_of_ble_eq_true rfl⟩ rfl (Nat.le_of_ble_eq_true rfl) ⟨Nat.le_of_ble_eq_true rfl, Nat.le_of_ble_eq_true rfl⟩ [] (by decide) rfl rfl dX0_startOfSigns_13) rfl ?_
        refine zg_if_ne (tgt := 21) X dX0_startOfSigns_16 (by decide) (fun c4 => ?_) (fun c4 => ?_)
        · have hf := pl_f c4 hf
          obtain ⟨x5, ex5, hf⟩ := pl_l hf
          refine zg_iinc (v := x5) (L' := [(2, .int x5), (0, .ref q0)]) X dX0_startOfSigns_21 (j := 1) rfl (by rw [ex5]; rfl) (by decide) rfl ?_
          refine zg_goto (tgt := 2) X dX0_startOfSigns_24 (by decide) ?_
          refine zg_loc [1, 0] rfl ?_
          exact ih2 x5 hf
        · have hf := pl_t c4 hf
          refine zg_iload_n X dX0_startOfSigns_19 rfl 1 rfl ?_
          have hf := Option.some.inj hf
          subst hf
          exact zg_iret X hF rfl rfl () rfl rfl (Nat.le_of_ble_eq_true rfl) (Nat.le_of_ble_eq_true rfl) dX0_startOfSigns_20
  unfold zf_X0_startOfSigns at hf
  refine zg_iload_n X dX0_startOfSigns_0 rfl 1 rfl ?_
  refine zg_istore_n (L' := [(2, .int a1), (0, .ref q0), (1, .int a1)]) X dX0_startOfSigns_1 rfl (by decide) rfl ?_
  refine zg_loc [1, 0] rfl ?_
  exact hL2 fu a1 hf
theorem zh_X0_endOfSigns : yX0_endOfSigns.cls = RX0 ∧ yX0_endOfSigns.cls ≠ "java/lang/invoke/MethodHandle" ∧ yX0_endOfSigns.cls ≠ "java/lang/invoke/VarHandle" ∧ (parseMethodDescriptor yX0_endOfSigns.desc).map (fun d => d.parameters.length) = some 2 := by decide +kernel
set_option maxHeartbeats 8000000 in
set_option maxRecDepth 100000 in
theorem zc_X0_endOfSigns (G : zgG) (q0 q1 : Nat) (N : Nat) (v0 : zRow) (a1 : Int32) (fu : Nat) (res : Int32) (hf : zf_X0_endOfSigns fu N v0 a1 = some res) : zgCt G yX0_endOfSigns wsX0_endOfSigns ({ frames := 1, cells := 0, slots := 0, locals := 21 } : Room) [.ref q0, .int a1] [(q0, .inr (4, [.ref q1, .int v0.2])), (q1, .inl (G.2.2.1, N, .inl v0.1))] (fun _ : Unit => some (.int res)) (fun _ => [(q0, .inr (4, [.ref q1, .int v0.2])), (q1, .inl (G.2.2.1, N, .inl v0.1))]) 0 0 := by
  refine zg_of (own := RX0) (cc := cX0_endOfSigns) (nL := 3) (ret := (some .int)) (by decide +kernel) rfl rfl (Nat.le_of_ble_eq_true rfl) (fun Z X hF => ?_)
  show zgGd G Z _ 0 0 3 _ 0 [(0, .ref q0), (1, .int a1)] []
  have hL2 : ∀ (n : Nat) (y2 : Int32), zf_X0_endOfSigns_L2 fu N v0 n y2 = some res → zgGd G Z ({ frames := 1, cells := 0, slots := 0, locals := 21 } : Room) 0 0 3 [(q0, .inr (4, [.ref q1, .int v0.2])), (q1, .inl (G.2.2.1, N, .inl v0.1))] 2 [(0, .ref q0), (2, .int y2)] [] := by
    intro n
    induction n with
    | zero =>
      intro y2 hf
      rw [zf_X0_endOfSigns_L2] at hf
      cases hf
    | succ n2 ih2 =>
      intro y2 hf
      rw [zf_X0_endOfSigns_L2] at hf
      refine zg_iload_n X dX0_endOfSigns_2 rfl 1 rfl ?_
      refine zg_aload_n X dX0_endOfSigns_3 rfl 0 rfl ?_
      obtain ⟨b1, hb1, hf⟩ := pl_b hf
      refine zg_cP1 X (zg_runV X (zc_X5_size G q0 q1 N v0 fu b1 hb1) gX0_endOfSigns_X5_size rfl zh_X5_size ⟨rfl, rfl⟩ ⟨Nat.le_of_ble_eq_true rfl, Nat.le_of_ble_eq_true rfl⟩ rfl rfl rfl (Nat.le_of_ble_eq_true rfl) ⟨Nat.le_of_ble_eq_true rfl, Nat.le_of_ble_eq_true rfl⟩ [0, 1] (by decide) rfl rfl dX0_endOfSigns_4) rfl ?_
      refine zg_icmp_ge (tgt := 29) X dX0_endOfSigns_7 (by decide) (fun c2 => ?_) (fun c2 => ?_)
      · have hf := pl_t c2 hf
        refine zg_aload_n X dX0_endOfSigns_29 rfl 0 rfl ?_
        obtain ⟨b3, hb3, hf⟩ := pl_b hf
        refine zg_cP1 X (zg_runV X (zc_X5_size G q0 q1 N v0 fu b3 hb3) gX0_endOfSigns_X5_size rfl zh_X5_size ⟨rfl, rfl⟩ ⟨Nat.le_of_ble_eq_true rfl, Nat.le_of_ble_eq_true rfl⟩ rfl rfl rfl (Nat.le_of_ble_eq_true rfl) ⟨Nat.le_of_ble_eq_true rfl, Nat.le_of_ble_eq_true rfl⟩ [0, 1] (by decide) rfl rfl dX0_endOfSigns_30) rfl ?_
        have hf := Option.some.inj hf
        subst hf
        exact zg_iret X hF rfl rfl () rfl rfl (Nat.le_of_ble_eq_true rfl) (Nat.le_of_ble_eq_true rfl) dX0_endOfSigns_33
      · have hf := pl_f c2 hf
        refine zg_aload_n X dX0_endOfSigns_10 rfl 0 rfl ?_
        refine zg_iload_n X dX0_endOfSigns_11 rfl 1 rfl ?_
        obtain ⟨b4, hb4, hf⟩ := pl_b hf
        refine zg_cP1 X (zg_runV X (zc_X5_at G q0 q1 N v0 y2 fu b4 hb4) gX0_endOfSigns_X5_at rfl zh_X5_at ⟨rfl, rfl⟩ ⟨Nat.le_of_ble_eq_true rfl, Nat.le_of_ble_eq_true rfl⟩ rfl rfl rfl (Nat.le_of_ble_eq_true rfl) ⟨Nat.le_of_ble_eq_true rfl, Nat.le_of_ble_eq_true rfl⟩ [0, 1] (by decide) rfl rfl dX0_endOfSigns_12) rfl ?_
        obtain ⟨b5, hb5, hf⟩ := pl_b hf
        refine zg_cP1 X (zg_runS X (zc_X0_isSign G b4 fu b5 hb5) gX0_endOfSigns_X0_isSign rfl zh_X0_isSign.2 ⟨rfl, rfl⟩ ⟨Nat.le_of_ble_eq_true rfl, Nat.le_of_ble_eq_true rfl⟩ rfl (Nat.le_of_ble_eq_true rfl) ⟨Nat.le_of_ble_eq_true rfl, Nat.le_of_ble_eq_true rfl⟩ [] (by decide) rfl rfl dX0_endOfSigns_15) rfl ?_
        refine zg_if_ne (tgt := 23) X dX0_endOfSigns_18 (by decide) (fun c6 => ?_) (fun c6 => ?_)
        · have hf := pl_f c6 hf
          obtain ⟨x7, ex7, hf⟩ := pl_l hf
          refine zg_iinc (v := x7) (L' := [(2, .int x7), (0, .ref q0)]) X dX0_endOfSigns_23 (j := 1) rfl (by rw [ex7]; rfl) (by decide) rfl ?_
          refine zg_goto (tgt := 2) X dX0_endOfSigns_26 (by decide) ?_
          refine zg_loc [1, 0] rfl ?_
          exact ih2 x7 hf
        · have hf := pl_t c6 hf
          refine zg_iload_n X dX0_endOfSigns_21 rfl 1 rfl ?_
          have hf := Option.some.inj hf
          subst hf
          exact zg_iret X hF rfl rfl () rfl rfl (Nat.le_of_ble_eq_true rfl) (Nat.le_of_ble_eq_true rfl) dX0_endOfSigns_22
  unfold zf_X0_endOfSigns at hf
  refine zg_iload_n X dX0_endOfSigns_0 rfl 1 rfl ?_
  refine zg_istore_n (L' := [(2, .int a1), (0, .ref q0), (1, .int a1)]) X dX0_endOfSigns_1 rfl (by decide) rfl ?_
  refine zg_loc [1, 0] rfl ?_
  exact hL2 fu a1 hf
theorem zh_X0_shiftBehind : yX0_shiftBehind.cls = RX0 ∧ yX0_shiftBehind.cls ≠ "java/lang/invoke/MethodHandle" ∧ yX0_shiftBehind.cls ≠ "java/lang/invoke/VarHandle" ∧ (parseMethodDescriptor yX0_shiftBehind.desc).map (fun d => d.parameters.length) = some 3 := by decide +kernel
set_option maxHeartbeats 8000000 in
set_option maxRecDepth 100000 in
theorem zc_X0_shiftBehind (G : zgG) (a0 : Int32) (a1 : Int32) (a2 : Int32) (fu : Nat) (res : Int32) (hf : zf_X0_shiftBehind fu a0 a1 a2 = some res) : zgCt G yX0_shiftBehind wsX0_shiftBehind ({ frames := 0, cells := 0, slots := 0, locals := 0 } : Room) [.int a0, .int a1, .int a2] [] (fun _ : Unit => some (.int res)) (fun _ => []) 0 0 := by
  refine zg_of (own := RX0) (cc := cX0_shiftBehind) (nL := 3) (ret := (some .int)) (by decide +kernel) rfl rfl (Nat.le_of_ble_eq_true rfl) (fun Z X hF => ?_)
  show zgGd G Z _ 0 0 3 _ 0 [(0, .int a0), (1, .int a1), (2, .int a2)] []
  unfold zf_X0_shiftBehind at hf
  refine zg_iload_n X dX0_shiftBehind_0 rfl 0 rfl ?_
  refine zg_bipush (v := 30) X dX0_shiftBehind_1 (by decide) ?_
  refine zg_icmp_ne (tgt := 8) X dX0_shiftBehind_3 (by decide) (fun c1 => ?_) (fun c1 => ?_)
  · have hf := pl_f c1 hf
    refine zg_iload_n X dX0_shiftBehind_8 rfl 0 rfl ?_
    refine zg_bipush (v := 31) X dX0_shiftBehind_9 (by decide) ?_
    refine zg_icmp_eq (tgt := 24) X dX0_shiftBehind_11 (by decide) (fun c2 => ?_) (fun c2 => ?_)
    · have hf := pl_t c2 hf
      refine zg_iconst (v := 0) X dX0_shiftBehind_24 (by decide) ?_
      have hf := Option.some.inj hf
      subst hf
      exact zg_iret X hF rfl rfl () rfl rfl (Nat.le_of_ble_eq_true rfl) (Nat.le_of_ble_eq_true rfl) dX0_shiftBehind_25
    · have hf := pl_f c2 hf
      refine zg_iload_n X dX0_shiftBehind_14 rfl 2 rfl ?_
      refine zg_if_eq (tgt := 26) X dX0_shiftBehind_15 (by decide) (fun c3 => ?_) (fun c3 => ?_)
      · have hf := pl_t c3 hf
        refine zg_iload_n X dX0_shiftBehind_26 rfl 1 rfl ?_
        have hf := Option.some.inj hf
        subst hf
        exact zg_iret X hF rfl rfl () rfl rfl (Nat.le_of_ble_eq_true rfl) (Nat.le_of_ble_eq_true rfl) dX0_shiftBehind_27
      · have hf := pl_f c3 hf
        refine zg_iload_n X dX0_shiftBehind_18 rfl 0 rfl ?_
        refine zg_bipush (v := 27) X dX0_shiftBehind_19 (by decide) ?_
        refine zg_icmp_ne (tgt := 26) X dX0_shiftBehind_21 (by decide) (fun c4 => ?_) (fun c4 => ?_)
        · have hf := pl_f c4 hf
          refine zg_iload_n X dX0_shiftBehind_26 rfl 1 rfl ?_
          have hf := Option.some.inj hf
          subst hf
          exact zg_iret X hF rfl rfl () rfl rfl (Nat.le_of_ble_eq_true rfl) (Nat.le_of_ble_eq_true rfl) dX0_shiftBehind_27
        · have hf := pl_t c4 hf
          refine zg_iconst (v := 0) X dX0_shiftBehind_24 (by decide) ?_
          have hf := Option.some.inj hf
          subst hf
          exact zg_iret X hF rfl rfl () rfl rfl (Nat.le_of_ble_eq_true rfl) (Nat.le_of_ble_eq_true rfl) dX0_shiftBehind_25
  · have hf := pl_t c1 hf
    refine zg_iconst (v := 1) X dX0_shiftBehind_6 (by decide) ?_
    have hf := Option.some.inj hf
    subst hf
    exact zg_iret X hF rfl rfl () rfl rfl (Nat.le_of_ble_eq_true rfl) (Nat.le_of_ble_eq_true rfl) dX0_shiftBehind_7
