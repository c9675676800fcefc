theorem zh_X5_size : yX5_size.cls = RX5 ∧ yX5_size.cls ≠ "java/lang/invoke/MethodHandle" ∧ yX5_size.cls ≠ "java/lang/invoke/VarHandle" ∧ (parseMethodDescriptor yX5_size.desc).map (fun d => d.parameters.length) = some 0 := by decide +kernel
set_option maxHeartbeats 8000000 in
set_option maxRecDepth 100000 in
theorem zc_X5_size (G : zgG) (q0 q1 : Nat) (N : Nat) (v0 : zRow) (fu : Nat) (res : Int32) (hf : zf_X5_size fu N v0 = some res) : zgCt G yX5_size wsX5_size ({ frames := 0, cells := 0, slots := 0, locals := 0 } : Room) [.ref q0] [(q0, .inr (4, [.ref q1, .int v0.2])), (q1, .inl (G.2.2.1, N, .inl v0.1))] (fun _ : Unit => some (.int res)) (fun _ => [(q0, .inr (4, [.ref q1, .int v0.2])), (q1, .inl (G.2.2.1, N, .inl v0.1))]) 0 0 := by
  have hw0 : Cond.fieldLink RX5 21 "TelexReceiver$Row" "size" "I" ∈ wsX5_size := by decide +kernel
  have hiX5 : ∀ w ∈ u_ws RX5 TX5 2, w ∈ wsX5_size := by decide +kernel
  refine zg_of (own := RX5) (cc := cX5_size) (nL := 1) (ret := (some .int)) (by decide +kernel) rfl rfl (Nat.le_of_ble_eq_true rfl) (fun Z X hF => ?_)
  show zgGd G Z _ 0 0 1 _ 0 [(0, .ref q0)] []
  unfold zf_X5_size at hf
  refine zg_aload_n X dX5_size_0 rfl 0 rfl ?_
  refine zg_get (C := RX5) (T := TX5) (N := 2) X 0 1 hiX5 rfl rfl (by decide) hw0 rfl dX5_size_1 ?_
  have hf := Option.some.inj hf
  subst hf
  exact zg_iret X hF rfl rfl () rfl rfl (Nat.le_of_ble_eq_true rfl) (Nat.le_of_ble_eq_true rfl) dX5_size_4
theorem zh_X5_has : yX5_has.cls = RX5 ∧ yX5_has.cls ≠ "java/lang/invoke/MethodHandle" ∧ yX5_has.cls ≠ "java/lang/invoke/VarHandle" ∧ (parseMethodDescriptor yX5_has.desc).map (fun d => d.parameters.length) = some 1 := by decide +kernel
set_option maxHeartbeats 8000000 in
set_option maxRecDepth 100000 in
theorem zc_X5_has (G : zgG) (q0 q1 : Nat) (N : Nat) (v0 : zRow) (a1 : Int32) (fu : Nat) (res : Int32) (hf : zf_X5_has fu N v0 a1 = some res) : zgCt G yX5_has wsX5_has ({ frames := 0, cells := 0, slots := 0, locals := 0 } : Room) [.ref q0, .int a1] [(q0, .inr (4, [.ref q1, .int v0.2])), (q1, .inl (G.2.2.1, N, .inl v0.1))] (fun _ : Unit => some (.int res)) (fun _ => [(q0, .inr (4, [.ref q1, .int v0.2])), (q1, .inl (G.2.2.1, N, .inl v0.1))]) 0 0 := by
  have hw0 : Cond.fieldLink RX5 21 "TelexReceiver$Row" "size" "I" ∈ wsX5_has := by decide +kernel
  have hw1 : Cond.fieldLink RX5 15 "TelexReceiver$Row" "values" "[I" ∈ wsX5_has := by decide +kernel
  have hiX5 : ∀ w ∈ u_ws RX5 TX5 2, w ∈ wsX5_has := by decide +kernel
  refine zg_of (own := RX5) (cc := cX5_has) (nL := 2) (ret := (some .boolean)) (by decide +kernel) rfl rfl (Nat.le_of_ble_eq_true rfl) (fun Z X hF => ?_)
  show zgGd G Z _ 0 0 2 _ 0 [(0, .ref q0), (1, .int a1)] []
  unfold zf_X5_has at hf
  refine zg_iload_n X dX5_has_0 rfl 1 rfl ?_
  refine zg_if_lt (tgt := 25) X dX5_has_1 (by decide) (fun c1 => ?_) (fun c1 => ?_)
  · have hf := pl_t c1 hf
    refine zg_iconst (v := 0) X dX5_has_25 (by decide) ?_
    have hf := Option.some.inj hf
    subst hf
    exact zg_iret X hF rfl rfl () rfl rfl (Nat.le_of_ble_eq_true rfl) (Nat.le_of_ble_eq_true rfl) dX5_has_26
  · have hf := pl_f c1 hf
    refine zg_iload_n X dX5_has_4 rfl 1 rfl ?_
    refine zg_aload_n X dX5_has_5 rfl 0 rfl ?_
    refine zg_get (C := RX5) (T := TX5) (N := 2) X 0 1 hiX5 rfl rfl (by decide) hw0 rfl dX5_has_6 ?_
    refine zg_icmp_ge (tgt := 25) X dX5_has_9 (by decide) (fun c2 => ?_) (fun c2 => ?_)
    · have hf := pl_t c2 hf
      refine zg_iconst (v := 0) X dX5_has_25 (by decide) ?_
      have hf := Option.some.inj hf
      subst hf
      exact zg_iret X hF rfl rfl () rfl rfl (Nat.le_of_ble_eq_true rfl) (Nat.le_of_ble_eq_true rfl) dX5_has_26
    · have hf := pl_f c2 hf
      refine zg_iload_n X dX5_has_12 rfl 1 rfl ?_
      refine zg_aload_n X dX5_has_13 rfl 0 rfl ?_
      refine zg_get (C := RX5) (T := TX5) (N := 2) X 0 0 hiX5 rfl rfl (by decide) hw1 rfl dX5_has_14 ?_
      refine zg_alen (v := nI N) X 1 0 rfl rfl rfl dX5_has_17 ?_
      refine zg_icmp_ge (tgt := 25) X dX5_has_18 (by decide) (fun c3 => ?_) (fun c3 => ?_)
      · have hf := pl_t c3 hf
        refine zg_iconst (v := 0) X dX5_has_25 (by decide) ?_
        have hf := Option.some.inj hf
        subst hf
        exact zg_iret X hF rfl rfl () rfl rfl (Nat.le_of_ble_eq_true rfl) (Nat.le_of_ble_eq_true rfl) dX5_has_26
      · have hf := pl_f c3 hf
        refine zg_iconst (v := 1) X dX5_has_21 (by decide) ?_
        refine zg_goto (tgt := 26) X dX5_has_22 (by decide) ?_
        have hf := Option.some.inj hf
        subst hf
        exact zg_iret X hF rfl rfl () rfl rfl (Nat.le_of_ble_eq_true rfl) (Nat.le_of_ble_eq_true rfl) dX5_has_26
theorem zh_X5_at : yX5_at.cls = RX5 ∧ yX5_at.cls ≠ "java/lang/invoke/MethodHandle" ∧ yX5_at.cls ≠ "java/lang/invoke/VarHandle" ∧ (parseMethodDescriptor yX5_at.desc).map (fun d => d.parameters.length) = some 1 := by decide +kernel
set_option maxHeartbeats 8000000 in
set_option maxRecDepth 100000 in
theorem zc_X5_at (G : zgG) (q0 q1 : Nat) (N : Nat) (v0 : zRow) (a1 : Int32) (fu : Nat) (res : Int32) (hf : zf_X5_at fu N v0 a1 = some res) : zgCt G yX5_at wsX5_at ({ frames := 0, cells := 0, slots := 0, locals := 0 } : Room) [.ref q0, .int a1] [(q0, .inr (4, [.ref q1, .int v0.2])), (q1, .inl (G.2.2.1, N, .inl v0.1))] (fun _ : Unit => some (.int res)) (fun _ => [(q0, .inr (4, [.ref q1, .int v0.2])), (q1, .inl (G.2.2.1, N, .inl v0.1))]) 0 0 := by
  have hw0 : Cond.fieldLink RX5 21 "TelexReceiver$Row" "size" "I" ∈ wsX5_at := by decide +kernel
  have hw1 : Cond.fieldLink RX5 15 "TelexReceiver$Row" "values" "[I" ∈ wsX5_at := by decide +kernel
  have hiX5 : ∀ w ∈ u_ws RX5 TX5 2, w ∈ wsX5_at := by decide +kernel
  refine zg_of (own := RX5) (cc := cX5_at) (nL := 2) (ret := (some .int)) (by decide +kernel) rfl rfl (Nat.le_of_ble_eq_true rfl) (fun Z X hF => ?_)
  show zgGd G Z _ 0 0 2 _ 0 [(0, .ref q0), (1, .int a1)] []
  unfold zf_X5_at at hf
  refine zg_iload_n X dX5_at_0 rfl 1 rfl ?_
  refine zg_if_lt (tgt := 30) X dX5_at_1 (by decide) (fun c1 => ?_) (fun c1 => ?_)
  · have hf := pl_t c1 hf
    refine zg_iconst (v := 0) X dX5_at_30 (by decide) ?_
    have hf := Option.some.inj hf
    subst hf
    exact zg_iret X hF rfl rfl () rfl rfl (Nat.le_of_ble_eq_true rfl) (Nat.le_of_ble_eq_true rfl) dX5_at_31
  · have hf := pl_f c1 hf
    refine zg_iload_n X dX5_at_4 rfl 1 rfl ?_
    refine zg_aload_n X dX5_at_5 rfl 0 rfl ?_
    refine zg_get (C := RX5) (T := TX5) (N := 2) X 0 1 hiX5 rfl rfl (by decide) hw0 rfl dX5_at_6 ?_
    refine zg_icmp_ge (tgt := 30) X dX5_at_9 (by decide) (fun c2 => ?_) (fun c2 => ?_)
    · have hf := pl_t c2 hf
      refine zg_iconst (v := 0) X dX5_at_30 (by decide) ?_
      have hf := Option.some.inj hf
      subst hf
      exact zg_iret X hF rfl rfl () rfl rfl (Nat.le_of_ble_eq_true rfl) (Nat.le_of_ble_eq_true rfl) dX5_at_31
    · have hf := pl_f c2 hf
      refine zg_iload_n X dX5_at_12 rfl 1 rfl ?_
      refine zg_aload_n X dX5_at_13 rfl 0 rfl ?_
      refine zg_get (C := RX5) (T := TX5) (N := 2) X 0 0 hiX5 rfl rfl (by decide) hw1 rfl dX5_at_14 ?_
      refine zg_alen (v := nI N) X 1 0 rfl rfl rfl dX5_at_17 ?_
      refine zg_icmp_ge (tgt := 30) X dX5_at_18 (by decide) (fun c3 => ?_) (fun c3 => ?_)
      · have hf := pl_t c3 hf
        refine zg_iconst (v := 0) X dX5_at_30 (by decide) ?_
        have hf := Option.some.inj hf
        subst hf
        exact zg_iret X hF rfl rfl () rfl rfl (Nat.le_of_ble_eq_true rfl) (Nat.le_of_ble_eq_true rfl) dX5_at_31
      · have hf := pl_f c3 hf
        refine zg_aload_n X dX5_at_21 rfl 0 rfl ?_
        refine zg_get (C := RX5) (T := TX5) (N := 2) X 0 0 hiX5 rfl rfl (by decide) hw1 rfl dX5_at_22 ?_
        refine zg_iload_n X dX5_at_25 rfl 1 rfl ?_
        obtain ⟨hin, hf⟩ := pl_in hf
        refine zg_iald X 1 rfl hin dX5_at_26 ?_
        obtain ⟨x4, ex4, hf⟩ := pl_l hf
        refine zg_topi ex4 ?_
        refine zg_goto (tgt := 31) X dX5_at_27 (by decide) ?_
        have hf := Option.some.inj hf
        subst hf
        exact zg_iret X hF rfl rfl () rfl rfl (Nat.le_of_ble_eq_true rfl) (Nat.le_of_ble_eq_true rfl) dX5_at_31
theorem zh_X5_set : yX5_set.cls = RX5 ∧ yX5_set.cls ≠ "java/lang/invoke/MethodHandle" ∧ yX5_set.cls ≠ "java/lang/invoke/VarHandle" ∧ (parseMethodDescriptor yX5_set.desc).map (fun d => d.parameters.length) = some 2 := by decide +kernel
set_option maxHeartbeats 8000000 in
set_option maxRecDepth 100000 in
theorem zc_X5_set (G : zgG) (q0 q1 : Nat) (N : Nat) (v0 : zRow) (a1 : Int32) (a2 : Int32) (fu : Nat) (res : zRow) (hf : zf_X5_set fu N v0 a1 a2 = some res) : zgCt G yX5_set wsX5_set ({ frames := 1, cells := 0, slots := 0, locals := 21 } : Room) [.ref q0, .int a1, .int a2] [(q0, .inr (4, [.ref q1, .int v0.2])), (q1, .inl (G.2.2.1, N, .inl v0.1))] (fun _ : Unit => none) (fun _ => [(q0, .inr (4, [.ref q1, .int res.2])), (q1, .inl (G.2.2.1, N, .inl res.1))]) 0 0 := by
  have hw0 : Cond.fieldLink RX5 15 "TelexReceiver$Row" "values" "[I" ∈ wsX5_set := by decide +kernel
  have hiX5 : ∀ w ∈ u_ws RX5 TX5 2, w ∈ wsX5_set := by decide +kernel
  refine zg_of (own := RX5) (cc := cX5_set) (nL := 3) (ret := none) (by decide +kernel) rfl rfl (Nat.le_of_ble_eq_true rfl) (fun Z X hF => ?_)
  show zgGd G Z _ 0 0 3 _ 0 [(0, .ref q0), (1, .int a1), (2, .int a2)] []
  unfold zf_X5_set at hf
  refine zg_aload_n X dX5_set_0 rfl 0 rfl ?_
  refine zg_iload_n X dX5_set_1 rfl 1 rfl ?_
  obtain ⟨b1, hb1, hf⟩ := pl_b hf
  refine zg_cP1 X (zg_runV X (zc_X5_has G q0 q1 N v0 a1 fu b1 hb1) gX5_set_X5_has rfl zh_X5_has ⟨rfl, rfl⟩ ⟨Nat.le_of_ble_eq_true rfl, Nat.le_of_ble_eq_true rfl⟩ rfl rfl rfl (Nat.le_of_ble_eq_true rfl) ⟨Nat.le_of_ble_eq_true rfl, Nat.le_of_ble_eq_true rfl⟩ [0, 1] (by decide) rfl rfl dX5_set_2) rfl ?_
  refine zg_if_eq (tgt := 15) X dX5_set_5 (by decide) (fun c2 => ?_) (fun c2 => ?_)
  · have hf := pl_t c2 hf
    have hf := Option.some.inj hf
    subst hf
    exact zg_vret X hF () rfl rfl (Nat.le_of_ble_eq_true rfl) (Nat.le_of_ble_eq_true rfl) dX5_set_15
  · have hf := pl_f c2 hf
    refine zg_aload_n X dX5_set_8 rfl 0 rfl ?_
    refine zg_get (C := RX5) (T := TX5) (N := 2) X 0 0 hiX5 rfl rfl (by decide) hw0 rfl dX5_set_9 ?_
    refine zg_iload_n X dX5_set_12 rfl 1 rfl ?_
    refine zg_iload_n X dX5_set_13 rfl 2 rfl ?_
    obtain ⟨hin, hf⟩ := pl_in hf
    obtain ⟨f3, ef3, hf⟩ := pl_l hf
    refine zg_iast (ws' := [(q0, .inr (4, [.ref q1, .int v0.2])), (q1, .inl (G.2.2.1, N, .inl f3))]) X 1 rfl hin (by subst ef3; rfl) dX5_set_14 ?_
    have hf := Option.some.inj hf
    subst hf
    exact zg_vret X hF () rfl rfl (Nat.le_of_ble_eq_true rfl) (Nat.le_of_ble_eq_true rfl) dX5_set_15
theorem zh_X5_add : yX5_add.cls = RX5 ∧ yX5_add.cls ≠ "java/lang/invoke/MethodHandle" ∧ yX5_add.cls ≠ "java/lang/invoke/VarHandle" ∧ (parseMethodDescriptor yX5_add.desc).map (fun d => d.parameters.length) = some 1 := by decide +kernel
set_option maxHeartbeats 8000000 in
set_option maxRecDepth 100000 in
theorem zc_X5_add (G : zgG) (q0 q1 : Nat) (N : Nat) (v0 : zRow) (a1 : Int32) (fu : Nat) (res : zRow) (hf : zf_X5_add fu N v0 a1 = some res) : zgCt G yX5_add wsX5_add ({ frames := 0, cells := 0, slots := 0, locals := 0 } : Room) [.ref q0, .int a1] [(q0, .inr (4, [.ref q1, .int v0.2])), (q1, .inl (G.2.2.1, N, .inl v0.1))] (fun _ : Unit => none) (fun _ => [(q0, .inr (4, [.ref q1, .int res.2])), (q1, .inl (G.2.2.1, N, .inl res.1))]) 0 0 := by
  have hw0 : Cond.fieldLink RX5 21 "TelexReceiver$Row" "size" "I" ∈ wsX5_add := by decide +kernel
  have hw1 : Cond.fieldLink RX5 15 "TelexReceiver$Row" "values" "[I" ∈ wsX5_add := by decide +kernel
  have hiX5 : ∀ w ∈ u_ws RX5 TX5 2, w ∈ wsX5_add := by decide +kernel
  refine zg_of (own := RX5) (cc := cX5_add) (nL := 2) (ret := none) (by decide +kernel) rfl rfl (Nat.le_of_ble_eq_true rfl) (fun Z X hF => ?_)
  show zgGd G Z _ 0 0 2 _ 0 [(0, .ref q0), (1, .int a1)] []
  unfold zf_X5_add at hf
  refine zg_aload_n X dX5_add_0 rfl 0 rfl ?_
  refine zg_get (C := RX5) (T := TX5) (N := 2) X 0 1 hiX5 rfl rfl (by decide) hw0 rfl dX5_add_1 ?_
  refine zg_if_lt (tgt := 39) X dX5_add_4 (by decide) (fun c1 => ?_) (fun c1 => ?_)
  · have hf := pl_t c1 hf
    have hf := Option.some.inj hf
    subst hf
    exact zg_vret X hF () rfl rfl (Nat.le_of_ble_eq_true rfl) (Nat.le_of_ble_eq_true rfl) dX5_add_39
  · have hf := pl_f c1 hf
    refine zg_aload_n X dX5_add_7 rfl 0 rfl ?_
    refine zg_get (C := RX5) (T := TX5) (N := 2) X 0 1 hiX5 rfl rfl (by decide) hw0 rfl dX5_add_8 ?_
    refine zg_aload_n X dX5_add_11 rfl 0 rfl ?_
    refine zg_get (C := RX5) (T := TX5) (N := 2) X 0 0 hiX5 rfl rfl (by decide) hw1 rfl dX5_add_12 ?_
    refine zg_alen (v := nI N) X 1 0 rfl rfl rfl dX5_add_15 ?_
    refine zg_icmp_ge (tgt := 39) X dX5_add_16 (by decide) (fun c2 => ?_) (fun c2 => ?_)
    · have hf := pl_t c2 hf
      have hf := Option.some.inj hf
      subst hf
      exact zg_vret X hF () rfl rfl (Nat.le_of_ble_eq_true rfl) (Nat.le_of_ble_eq_true rfl) dX5_add_39
    · have hf := pl_f c2 hf
      refine zg_aload_n X dX5_add_19 rfl 0 rfl ?_
      refine zg_get (C := RX5) (T := TX5) (N := 2) X 0 0 hiX5 rfl rfl (by decide) hw1 rfl dX5_add_20 ?_
      refine zg_aload_n X dX5_add_23 rfl 0 rfl ?_
      refine zg_get (C := RX5) (T := TX5) (N := 2) X 0 1 hiX5 rfl rfl (by decide) hw0 rfl dX5_add_24 ?_
      refine zg_iload_n X dX5_add_27 rfl 1 rfl ?_
      obtain ⟨hin, hf⟩ := pl_in hf
      obtain ⟨f3, ef3, hf⟩ := pl_l hf
      refine zg_iast (ws' := [(q0, .inr (4, [.ref q1, .int v0.2])), (q1, .inl (G.2.2.1, N, .inl f3))]) X 1 rfl hin (by subst ef3; rfl) dX5_add_28 ?_
      refine zg_aload_n X dX5_add_29 rfl 0 rfl ?_
      refine zg_dup X dX5_add_30 rfl ?_
      refine zg_get (C := RX5) (T := TX5) (N := 2) X 0 1 hiX5 rfl rfl (by decide) hw0 rfl dX5_add_31 ?_
      refine zg_iconst (v := 1) X dX5_add_34 (by decide) ?_
      refine zg_iadd X dX5_add_35 ?_
      obtain ⟨x4, ex4, hf⟩ := pl_l hf
      refine zg_topi ex4 ?_
      refine zg_put (C := RX5) (T := TX5) (N := 2) (ty := .int) (ws' := [(q0, .inr (4, [.ref q1, .int x4])), (q1, .inl (G.2.2.1, N, .inl f3))]) X 0 1 hiX5 tyX5 tyX5_ok nmX5 rfl rfl (by decide) hw0 rfl (by decide +kernel) rfl rfl (Nat.le_of_ble_eq_true rfl) rfl dX5_add_36 ?_
      have hf := Option.some.inj hf
      subst hf
      exact zg_vret X hF () rfl rfl (Nat.le_of_ble_eq_true rfl) (Nat.le_of_ble_eq_true rfl) dX5_add_39
theorem zh_X5_remove : yX5_remove.cls = RX5 ∧ yX5_remove.cls ≠ "java/lang/invoke/MethodHandle" ∧ yX5_remove.cls ≠ "java/lang/invoke/VarHandle" ∧ (parseMethodDescriptor yX5_remove.desc).map (fun d => d.parameters.length) = some 1 := by decide +kernel
set_option maxHeartbeats 8000000 in
set_option maxRecDepth 100000 in
theorem zc_X5_remove (G : zgG) (q0 q1 : Nat) (N : Nat) (v0 : zRow) (a1 : Int32) (fu : Nat) (res : zRow) (hf : zf_X5_remove fu N v0 a1 = some res) : zgCt G yX5_remove wsX5_remove ({ frames := 2, cells := 0, slots := 0, locals := 43 } : Room) [.ref q0, .int a1] [(q0, .inr (4, [.ref q1, .int v0.2])), (q1, .inl (G.2.2.1, N, .inl v0.1))] (fun _ : Unit => none) (fun _ => [(q0, .inr (4, [.ref q1, .int res.2])), (q1, .inl (G.2.2.1, N, .inl res.1))]) 0 0 := by
  have hw0 : Cond.fieldLink RX5 21 "TelexReceiver$Row" "size" "I" ∈ wsX5_remove := by decide +kernel
  have hiX5 : ∀ w ∈ u_ws RX5 TX5 2, w ∈ wsX5_remove := by decide +kernel
  refine zg_of (own := RX5) (cc := cX5_remove) (nL := 3) (ret := none) (by decide +kernel) rfl rfl (Nat.le_of_ble_eq_true rfl) (fun Z X hF => ?_)
  show zgGd G Z _ 0 0 3 _ 0 [(0, .ref q0), (1, .int a1)] []
  have hL13 : ∀ (n : Nat) (y2 : Int32) (w0 : (Nat → Int32)) (w1 : Int32), zf_X5_remove_L13 fu N v0 n y2 w0 w1 = some res → zgGd G Z ({ frames := 2, cells := 0, slots := 0, locals := 43 } : Room) 0 0 3 [(q0, .inr (4, [.ref q1, .int w1])), (q1, .inl (G.2.2.1, N, .inl w0))] 13 [(0, .ref q0), (2, .int y2)] [] := by
    intro n
    induction n with
    | zero =>
      intro y2 w0 w1 hf
      rw [zf_X5_remove_L13] at hf
      cases hf
    | succ n13 ih13 =>
      intro y2 w0 w1 hf
      rw [zf_X5_remove_L13] at hf
      refine zg_iload_n X dX5_remove_13 rfl 1 rfl ?_
      refine zg_aload_n X dX5_remove_14 rfl 0 rfl ?_
      refine zg_get (C := RX5) (T := TX5) (N := 2) X 0 1 hiX5 rfl rfl (by decide) hw0 rfl dX5_remove_15 ?_
      refine zg_icmp_ge (tgt := 39) X dX5_remove_18 (by decide) (fun c4 => ?_) (fun c4 => ?_)
      · have hf := pl_t c4 hf
        refine zg_aload_n X dX5_remove_39 rfl 0 rfl ?_
        refine zg_dup X dX5_remove_40 rfl ?_
        refine zg_get (C := RX5) (T := TX5) (N := 2) X 0 1 hiX5 rfl rfl (by decide) hw0 rfl dX5_remove_41 ?_
        refine zg_iconst (v := 1) X dX5_remove_44 (by decide) ?_
        refine zg_isub X dX5_remove_45 ?_
        obtain ⟨x5, ex5, hf⟩ := pl_l hf
        refine zg_topi ex5 ?_
        refine zg_put (C := RX5) (T := TX5) (N := 2) (ty := .int) (ws' := [(q0, .inr (4, [.ref q1, .int x5])), (q1, .inl (G.2.2.1, N, .inl w0))]) X 0 1 hiX5 tyX5 tyX5_ok nmX5 rfl rfl (by decide) hw0 rfl (by decide +kernel) rfl rfl (Nat.le_of_ble_eq_true rfl) rfl dX5_remove_46 ?_
        have hf := Option.some.inj hf
        subst hf
        exact zg_vret X hF () rfl rfl (Nat.le_of_ble_eq_true rfl) (Nat.le_of_ble_eq_true rfl) dX5_remove_49
      · have hf := pl_f c4 hf
        refine zg_aload_n X dX5_remove_21 rfl 0 rfl ?_
        refine zg_iload_n X dX5_remove_22 rfl 1 rfl ?_
        refine zg_iconst (v := 1) X dX5_remove_23 (by decide) ?_
        refine zg_isub X dX5_remove_24 ?_
        refine zg_aload_n X dX5_remove_25 rfl 0 rfl ?_
        refine zg_iload_n X dX5_remove_26 rfl 1 rfl ?_
        obtain ⟨b6, hb6, hf⟩ := pl_b hf
        refine zg_cP1 X (zg_runV X (zc_X5_at G q0 q1 N (w0, w1) y2 fu b6 hb6) gX5_remove_X5_at rfl zh_X5_at ⟨rfl, rfl⟩ ⟨Nat.le_of_ble_eq_true rfl, Nat.le_of_ble_eq_true rfl⟩ rfl rfl rfl (Nat.le_of_ble_eq_true rfl) ⟨Nat.le_of_ble_eq_true rfl, Nat.le_of_ble_eq_true rfl⟩ [0, 1] (by decide) rfl rfl dX5_remove_27) rfl ?_
        obtain ⟨b7, hb7, hf⟩ := pl_b hf
        refine zg_cU0 (ws2 := [(q0, .inr (4, [.ref q1, .int b7.2])), (q1, .inl (G.2.2.1, N, .inl b7.1))]) X (zg_runV X (zc_X5_set G q0 q1 N (w0, w1) (y2 - (1 : Int32)) b6 fu b7 hb7) gX5_remove_X5_set rfl zh_X5_set ⟨rfl, rfl⟩ ⟨Nat.le_of_ble_eq_true rfl, Nat.le_of_ble_eq_true rfl⟩ rfl rfl rfl (Nat.le_of_ble_eq_true rfl) ⟨Nat.le_of_ble_eq_true rfl, Nat.le_of_ble_eq_true rfl⟩ [0, 1] (by decide) rfl rfl dX5_remove_30) rfl rfl ?_
        obtain ⟨x8, ex8, hf⟩ := pl_l hf
        refine zg_iinc (v := x8) (L' := [(2, .int x8), (0, .ref q0)]) X dX5_remove_33 (j := 1) rfl (by rw [ex8]; rfl) (by decide) rfl ?_
        refine zg_goto (tgt := 13) X dX5_remove_36 (by decide) ?_
        refine zg_loc [1, 0] rfl ?_
        exact ih13 x8 b7.1 b7.2 hf
  unfold zf_X5_remove at hf
  refine zg_aload_n X dX5_remove_0 rfl 0 rfl ?_
  refine zg_iload_n X dX5_remove_1 rfl 1 rfl ?_
  obtain ⟨b1, hb1, hf⟩ := pl_b hf
  refine zg_cP1 X (zg_runV X (zc_X5_has G q0 q1 N v0 a1 fu b1 hb1) gX5_remove_X5_has rfl zh_X5_has ⟨rfl, rfl⟩ ⟨Nat.le_of_ble_eq_true rfl, Nat.le_of_ble_eq_true rfl⟩ rfl rfl rfl (Nat.le_of_ble_eq_true rfl) ⟨Nat.le_of_ble_eq_true rfl, Nat.le_of_ble_eq_true rfl⟩ [0, 1] (by decide) rfl rfl dX5_remove_2) rfl ?_
  refine zg_if_ne (tgt := 9) X dX5_remove_5 (by decide) (fun c2 => ?_) (fun c2 => ?_)
  · have hf := pl_f c2 hf
    refine zg_iload_n X dX5_remove_9 rfl 1 rfl ?_
    refine zg_iconst (v := 1) X dX5_remove_10 (by decide) ?_
    refine zg_iadd X dX5_remove_11 ?_
    obtain ⟨x3, ex3, hf⟩ := pl_l hf
    refine zg_topi ex3 ?_
    refine zg_istore_n (L' := [(2, .int x3), (0, .ref q0), (1, .int a1)]) X dX5_remove_12 rfl (by decide) rfl ?_
    refine zg_loc [1, 0] rfl ?_
    exact hL13 fu x3 v0.1 v0.2 hf
  · have hf := pl_t c2 hf
    have hf := Option.some.inj hf
    subst hf
    exact zg_vret X hF () rfl rfl (Nat.le_of_ble_eq_true rfl) (Nat.le_of_ble_eq_true rfl) dX5_remove_8
theorem zh_X5_clear : yX5_clear.cls = RX5 ∧ yX5_clear.cls ≠ "java/lang/invoke/MethodHandle" ∧ yX5_clear.cls ≠ "java/lang/invoke/VarHandle" ∧ (parseMethodDescriptor yX5_clear.desc).map (fun d => d.parameters.length) = some 0 := by decide +kernel
set_option maxHeartbeats 8000000 in
set_option maxRecDepth 100000 in
theorem zc_X5_clear (G : zgG) (q0 q1 : Nat) (N : Nat) (v0 : zRow) (fu : Nat) (res : zRow) (hf : zf_X5_clear fu N v0 = some res) : zgCt G yX5_clear wsX5_clear ({ frames := 0, cells := 0, slots := 0, locals := 0 } : Room) [.ref q0] [(q0, .inr (4, [.ref q1, .int v0.2])), (q1, .inl (G.2.2.1, N, .inl v0.1))] (fun _ : Unit => none) (fun _ => [(q0, .inr (4, [.ref q1, .int res.2])), (q1, .inl (G.2.2.1, N, .inl res.1))]) 0 0 := by
  have hw0 : Cond.fieldLink RX5 21 "TelexReceiver$Row" "size" "I" ∈ wsX5_clear := by decide +kernel
  have hiX5 : ∀ w ∈ u_ws RX5 TX5 2, w ∈ wsX5_clear := by decide +kernel
  refine zg_of (own := RX5) (cc := cX5_clear) (nL := 1) (ret := none) (by decide +kernel) rfl rfl (Nat.le_of_ble_eq_true rfl) (fun Z X hF => ?_)
  show zgGd G Z _ 0 0 1 _ 0 [(0, .ref q0)] []
  unfold zf_X5_clear at hf
  refine zg_aload_n X dX5_clear_0 rfl 0 rfl ?_
  refine zg_iconst (v := 0) X dX5_clear_1 (by decide) ?_
  refine zg_put (C := RX5) (T := TX5) (N := 2) (ty := .int) (ws' := [(q0, .inr (4, [.ref q1, .int 0])), (q1, .inl (G.2.2.1, N, .inl v0.1))]) X 0 1 hiX5 tyX5 tyX5_ok nmX5 rfl rfl (by decide) hw0 rfl (by decide +kernel) rfl rfl (Nat.le_of_ble_eq_true rfl) rfl dX5_clear_2 ?_
  have hf := Option.some.inj hf
  subst hf
  exact zg_vret X hF () rfl rfl (Nat.le_of_ble_eq_true rfl) (Nat.le_of_ble_eq_true rfl) dX5_clear_5
theorem zh_X5_shorten : yX5_shorten.cls = RX5 ∧ yX5_shorten.cls ≠ "java/lang/invoke/MethodHandle" ∧ yX5_shorten.cls ≠ "java/lang/invoke/VarHandle" ∧ (parseMethodDescriptor yX5_shorten.desc).map (fun d => d.parameters.length) = some 1 := by decide +kernel
set_option maxHeartbeats 8000000 in
set_option maxRecDepth 100000 in
theorem zc_X5_shorten (G : zgG) (q0 q1 : Nat) (N : Nat) (v0 : zRow) (a1 : Int32) (fu : Nat) (res : zRow) (hf : zf_X5_shorten fu N v0 a1 = some res) : zgCt G yX5_shorten wsX5_shorten ({ frames := 0, cells := 0, slots := 0, locals := 0 } : Room) [.ref q0, .int a1] [(q0, .inr (4, [.ref q1, .int v0.2])), (q1, .inl (G.2.2.1, N, .inl v0.1))] (fun _ : Unit => none) (fun _ => [(q0, .inr (4, [.ref q1, .int res.2])), (q1, .inl (G.2.2.1, N, .inl res.1))]) 0 0 := by
  have hw0 : Cond.fieldLink RX5 21 "TelexReceiver$Row" "size" "I" ∈ wsX5_shorten := by decide +kernel
  have hiX5 : ∀ w ∈ u_ws RX5 TX5 2, w ∈ wsX5_shorten := by decide +kernel
  refine zg_of (own := RX5) (cc := cX5_shorten) (nL := 2) (ret := none) (by decide +kernel) rfl rfl (Nat.le_of_ble_eq_true rfl) (fun Z X hF => ?_)
  show zgGd G Z _ 0 0 2 _ 0 [(0, .ref q0), (1, .int a1)] []
  unfold zf_X5_shorten at hf
  refine zg_iload_n X dX5_shorten_0 rfl 1 rfl ?_
  refine zg_if_lt (tgt := 17) X dX5_shorten_1 (by decide) (fun c1 => ?_) (fun c1 => ?_)
  · have hf := pl_t c1 hf
    have hf := Option.some.inj hf
    subst hf
    exact zg_vret X hF () rfl rfl (Nat.le_of_ble_eq_true rfl) (Nat.le_of_ble_eq_true rfl) dX5_shorten_17
  · have hf := pl_f c1 hf
    refine zg_iload_n X dX5_shorten_4 rfl 1 rfl ?_
    refine zg_aload_n X dX5_shorten_5 rfl 0 rfl ?_
    refine zg_get (C := RX5) (T := TX5) (N := 2) X 0 1 hiX5 rfl rfl (by decide) hw0 rfl dX5_shorten_6 ?_
    refine zg_icmp_ge (tgt := 17) X dX5_shorten_9 (by decide) (fun c2 => ?_) (fun c2 => ?_)
    · have hf := pl_t c2 hf
      have hf := Option.some.inj hf
      subst hf
      exact zg_vret X hF () rfl rfl (Nat.le_of_ble_eq_true rfl) (Nat.le_of_ble_eq_true rfl) dX5_shorten_17
    · have hf := pl_f c2 hf
      refine zg_aload_n X dX5_shorten_12 rfl 0 rfl ?_
      refine zg_iload_n X dX5_shorten_13 rfl 1 rfl ?_
      refine zg_put (C := RX5) (T := TX5) (N := 2) (ty := .int) (ws' := [(q0, .inr (4, [.ref q1, .int a1])), (q1, .inl (G.2.2.1, N, .inl v0.1))]) X 0 1 hiX5 tyX5 tyX5_ok nmX5 rfl rfl (by decide) hw0 rfl (by decide +kernel) rfl rfl (Nat.le_of_ble_eq_true rfl) rfl dX5_shorten_14 ?_
      have hf := Option.some.inj hf
      subst hf
      exact zg_vret X hF () rfl rfl (Nat.le_of_ble_eq_true rfl) (Nat.le_of_ble_eq_true rfl) dX5_shorten_17
theorem zh_X5_fill : yX5_fill.cls = RX5 ∧ yX5_fill.cls ≠ "java/lang/invoke/MethodHandle" ∧ yX5_fill.cls ≠ "java/lang/invoke/VarHandle" ∧ (parseMethodDescriptor yX5_fill.desc).map (fun d => d.parameters.length) = some 2 := by decide +kernel
set_option maxHeartbeats 8000000 in
set_option maxRecDepth 100000 in
theorem zc_X5_fill (G : zgG) (q0 q1 : Nat) (N : Nat) (v0 : zRow) (a1 : Int32) (a2 : Int32) (fu : Nat) (res : zRow) (hf : zf_X5_fill fu N v0 a1 a2 = some res) : zgCt G yX5_fill wsX5_fill ({ frames := 1, cells := 0, slots := 0, locals := 21 } : Room) [.ref q0, .int a1, .int a2] [(q0, .inr (4, [.ref q1, .int v0.2])), (q1, .inl (G.2.2.1, N, .inl v0.1))] (fun _ : Unit => none) (fun _ => [(q0, .inr (4, [.ref q1, .int res.2])), (q1, .inl (G.2.2.1, N, .inl res.1))]) 0 0 := by
  refine zg_of (own := RX5) (cc := cX5_fill) (nL := 4) (ret := none) (by decide +kernel) rfl rfl (Nat.le_of_ble_eq_true rfl) (fun Z X hF => ?_)
  show zgGd G Z _ 0 0 4 _ 0 [(0, .ref q0), (1, .int a1), (2, .int a2)] []
  have hL6 : ∀ (n : Nat) (y1 : Int32) (y2 : Int32) (y3 : Int32) (w0 : (Nat → Int32)) (w1 : Int32), zf_X5_fill_L6 fu N v0 n y1 y2 y3 w0 w1 = some res → zgGd G Z ({ frames := 1, cells := 0, slots := 0, locals := 21 } : Room) 0 0 4 [(q0, .inr (4, [.ref q1, .int w1])), (q1, .inl (G.2.2.1, N, .inl w0))] 6 [(0, .ref q0), (1, .int y1), (2, .int y2), (3, .int y3)] [] := by
    intro n
    induction n with
    | zero =>
      intro y1 y2 y3 w0 w1 hf
      rw [zf_X5_fill_L6] at hf
      cases hf
    | succ n6 ih6 =>
      intro y1 y2 y3 w0 w1 hf
      rw [zf_X5_fill_L6] at hf
      refine zg_iload_n X dX5_fill_6 rfl 3 rfl ?_
      refine zg_iload_n X dX5_fill_7 rfl 1 rfl ?_
      refine zg_icmp_ge (tgt := 22) X dX5_fill_8 (by decide) (fun c2 => ?_) (fun c2 => ?_)
      · have hf := pl_t c2 hf
        have hf := Option.some.inj hf
        subst hf
        exact zg_vret X hF () rfl rfl (Nat.le_of_ble_eq_true rfl) (Nat.le_of_ble_eq_true rfl) dX5_fill_22
      · have hf := pl_f c2 hf
        refine zg_aload_n X dX5_fill_11 rfl 0 rfl ?_
        refine zg_iload_n X dX5_fill_12 rfl 2 rfl ?_
        obtain ⟨b3, hb3, hf⟩ := pl_b hf
        refine zg_cU0 (ws2 := [(q0, .inr (4, [.ref q1, .int b3.2])), (q1, .inl (G.2.2.1, N, .inl b3.1))]) X (zg_runV X (zc_X5_add G q0 q1 N (w0, w1) y2 fu b3 hb3) gX5_fill_X5_add rfl zh_X5_add ⟨rfl, rfl⟩ ⟨Nat.le_of_ble_eq_true rfl, Nat.le_of_ble_eq_true rfl⟩ rfl rfl rfl (Nat.le_of_ble_eq_true rfl) ⟨Nat.le_of_ble_eq_true rfl, Nat.le_of_ble_eq_true rfl⟩ [0, 1] (by decide) rfl rfl dX5_fill_13) rfl rfl ?_
        obtain ⟨x4, ex4, hf⟩ := pl_l hf
        refine zg_iinc (v := x4) (L' := [(3, .int x4), (0, .ref q0), (1, .int y1), (2, .int y2)]) X dX5_fill_16 (j := 3) rfl (by rw [ex4]; rfl) (by decide) rfl ?_
        refine zg_goto (tgt := 6) X dX5_fill_19 (by decide) ?_
        refine zg_loc [1, 2, 3, 0] rfl ?_
        exact ih6 y1 y2 x4 b3.1 b3.2 hf
  unfold zf_X5_fill at hf
  refine zg_aload_n X dX5_fill_0 rfl 0 rfl ?_
  obtain ⟨b1, hb1, hf⟩ := pl_b hf
  refine zg_cU0 (ws2 := [(q0, .inr (4, [.ref q1, .int b1.2])), (q1, .inl (G.2.2.1, N, .inl b1.1))]) X (zg_runV X (zc_X5_clear G q0 q1 N v0 fu b1 hb1) gX5_fill_X5_clear rfl zh_X5_clear ⟨rfl, rfl⟩ ⟨Nat.le_of_ble_eq_true rfl, Nat.le_of_ble_eq_true rfl⟩ rfl rfl rfl (Nat.le_of_ble_eq_true rfl) ⟨Nat.le_of_ble_eq_true rfl, Nat.le_of_ble_eq_true rfl⟩ [0, 1] (by decide) rfl rfl dX5_fill_1) rfl rfl ?_
  refine zg_iconst (v := 0) X dX5_fill_4 (by decide) ?_
  refine zg_istore_n (L' := [(3, .int 0), (0, .ref q0), (1, .int a1), (2, .int a2)]) X dX5_fill_5 rfl (by decide) rfl ?_
  refine zg_loc [1, 2, 3, 0] rfl ?_
  exact hL6 fu a1 a2 0 b1.1 b1.2 hf
theorem zh_X5_copyFrom : yX5_copyFrom.cls = RX5 ∧ yX5_copyFrom.cls ≠ "java/lang/invoke/MethodHandle" ∧ yX5_copyFrom.cls ≠ "java/lang/invoke/VarHandle" ∧ (parseMethodDescriptor yX5_copyFrom.desc).map (fun d => d.parameters.length) = some 1 := by decide +kernel
set_option maxHeartbeats 8000000 in
set_option maxRecDepth 100000 in
theorem zc_X5_copyFrom (G : zgG) (q0 q1 q2 q3 : Nat) (N N1 : Nat) (v0 : zRow) (v1 : zRow) (fu : Nat) (res : zRow) (hf : zf_X5_copyFrom fu N N1 v0 v1 = some res) : zgCt G yX5_copyFrom wsX5_copyFrom ({ frames := 1, cells := 0, slots := 0, locals := 21 } : Room) [.ref q0, .ref q2] [(q0, .inr (4, [.ref q1, .int v0.2])), (q1, .inl (G.2.2.1, N, .inl v0.1)), (q2, .inr (4, [.ref q3, .int v1.2])), (q3, .inl (G.2.2.1, N1, .inl v1.1))] (fun _ : Unit => none) (fun _ => [(q0, .inr (4, [.ref q1, .int res.2])), (q1, .inl (G.2.2.1, N, .inl res.1)), (q2, .inr (4, [.ref q3, .int v1.2])), (q3, .inl (G.2.2.1, N1, .inl v1.1))]) 0 0 := by
  have hw0 : Cond.fieldLink RX5 21 "TelexReceiver$Row" "size" "I" ∈ wsX5_copyFrom := by decide +kernel
  have hiX5 : ∀ w ∈ u_ws RX5 TX5 2, w ∈ wsX5_copyFrom := by decide +kernel
  refine zg_of (own := RX5) (cc := cX5_copyFrom) (nL := 3) (ret := none) (by decide +kernel) rfl rfl (Nat.le_of_ble_eq_true rfl) (fun Z X hF => ?_)
  show zgGd G Z _ 0 0 3 _ 0 [(0, .ref q0), (1, .ref q2)] []
  have hL6 : ∀ (n : Nat) (y2 : Int32) (w0 : (Nat → Int32)) (w1 : Int32), zf_X5_copyFrom_L6 fu N N1 v0 v1 n y2 w0 w1 = some res → zgGd G Z ({ frames := 1, cells := 0, slots := 0, locals := 21 } : Room) 0 0 3 [(q0, .inr (4, [.ref q1, .int w1])), (q1, .inl (G.2.2.1, N, .inl w0)), (q2, .inr (4, [.ref q3, .int v1.2])), (q3, .inl (G.2.2.1, N1, .inl v1.1))] 6 [(0, .ref q0), (1, .ref q2), (2, .int y2)] [] := by
    intro n
    induction n with
    | zero =>
      intro y2 w0 w1 hf
      rw [zf_X5_copyFrom_L6] at hf
      cases hf
    | succ n6 ih6 =>
      intro y2 w0 w1 hf
      rw [zf_X5_copyFrom_L6] at hf
      refine zg_iload_n X dX5_copyFrom_6 rfl 2 rfl ?_
      refine zg_aload_n X dX5_copyFrom_7 rfl 1 rfl ?_
      refine zg_get (C := RX5) (T := TX5) (N := 2) X 2 1 hiX5 rfl rfl (by decide) hw0 rfl dX5_copyFrom_8 ?_
      refine zg_icmp_ge (tgt := 29) X dX5_copyFrom_11 (by decide) (fun c2 => ?_) (fun c2 => ?_)
      · have hf := pl_t c2 hf
        have hf := Option.some.inj hf
        subst hf
        exact zg_vret X hF () rfl rfl (Nat.le_of_ble_eq_true rfl) (Nat.le_of_ble_eq_true rfl) dX5_copyFrom_29
      · have hf := pl_f c2 hf
        refine zg_aload_n X dX5_copyFrom_14 rfl 0 rfl ?_
        refine zg_aload_n X dX5_copyFrom_15 rfl 1 rfl ?_
        refine zg_iload_n X dX5_copyFrom_16 rfl 2 rfl ?_
        obtain ⟨b3, hb3, hf⟩ := pl_b hf
        refine zg_cP1 X (zg_runV X (zc_X5_at G q2 q3 N1 v1 y2 fu b3 hb3) gX5_copyFrom_X5_at rfl zh_X5_at ⟨rfl, rfl⟩ ⟨Nat.le_of_ble_eq_true rfl, Nat.le_of_ble_eq_true rfl⟩ rfl rfl rfl (Nat.le_of_ble_eq_true rfl) ⟨Nat.le_of_ble_eq_true rfl, Nat.le_of_ble_eq_true rfl⟩ [2, 3] (by decide) rfl rfl dX5_copyFrom_17) rfl ?_
        obtain ⟨b4, hb4, hf⟩ := pl_b hf
        refine zg_cU0 (ws2 := [(q0, .inr (4, [.ref q1, .int b4.2])), (q1, .inl (G.2.2.1, N, .inl b4.1)), (q2, .inr (4, [.ref q3, .int v1.2])), (q3, .inl (G.2.2.1, N1, .inl v1.1))]) X (zg_runV X (zc_X5_add G q0 q1 N (w0, w1) b3 fu b4 hb4) gX5_copyFrom_X5_add rfl zh_X5_add ⟨rfl, rfl⟩ ⟨Nat.le_of_ble_eq_true rfl, Nat.le_of_ble_eq_true rfl⟩ rfl rfl rfl (Nat.le_of_ble_eq_true rfl) ⟨Nat.le_of_ble_eq_true rfl, Nat.le_of_ble_eq_true rfl⟩ [0, 1] (by decide) rfl rfl dX5_copyFrom_20) rfl rfl ?_
        obtain ⟨x5, ex5, hf⟩ := pl_l hf
        refine zg_iinc (v := x5) (L' := [(2, .int x5), (0, .ref q0), (1, .ref q2)]) X dX5_copyFrom_23 (j := 2) rfl (by rw [ex5]; rfl) (by decide) rfl ?_
        refine zg_goto (tgt := 6) X dX5_copyFrom_26 (by decide) ?_
        refine zg_loc [1, 2, 0] rfl ?_
        exact ih6 x5 b4.1 b4.2 hf
  unfold zf_X5_copyFrom at hf
  refine zg_aload_n X dX5_copyFrom_0 rfl 0 rfl ?_
  obtain ⟨b1, hb1, hf⟩ := pl_b hf
  refine zg_cU0 (ws2 := [(q0, .inr (4, [.ref q1, .int b1.2])), (q1, .inl (G.2.2.1, N, .inl b1.1)), (q2, .inr (4, [.ref q3, .int v1.2])), (q3, .inl (G.2.2.1, N1, .inl v1.1))]) X (zg_runV X (zc_X5_clear G q0 q1 N v0 fu b1 hb1) gX5_copyFrom_X5_clear rfl zh_X5_clear ⟨rfl, rfl⟩ ⟨Nat.le_of_ble_eq_true rfl, Nat.le_of_ble_eq_true rfl⟩ rfl rfl rfl (Nat.le_of_ble_eq_true rfl) ⟨Nat.le_of_ble_eq_true rfl, Nat.le_of_ble_eq_true rfl⟩ [0, 1] (by decide) rfl rfl dX5_copyFrom_1) rfl rfl ?_
  refine zg_iconst (v := 0) X dX5_copyFrom_4 (by decide) ?_
  refine zg_istore_n (L' := [(2, .int 0), (0, .ref q0), (1, .ref q2)]) X dX5_copyFrom_5 rfl (by decide) rfl ?_
  refine zg_loc [1, 2, 0] rfl ?_
  exact hL6 fu 0 b1.1 b1.2 hf
theorem zh_X5_find : yX5_find.cls = RX5 ∧ yX5_find.cls ≠ "java/lang/invoke/MethodHandle" ∧ yX5_find.cls ≠ "java/lang/invoke/VarHandle" ∧ (parseMethodDescriptor yX5_find.desc).map (fun d => d.parameters.length) = some 1 := by decide +kernel
set_option maxHeartbeats 8000000 in
set_option maxRecDepth 100000 in
theorem zc_X5_find (G : zgG) (q0 q1 : Nat) (N : Nat) (v0 : zRow) (a1 : Int32) (fu : Nat) (res : Int32) (hf : zf_X5_find fu N v0 a1 = some res) : zgCt G yX5_find wsX5_find ({ frames := 1, cells := 0, slots := 0, locals := 21 } : Room) [.ref q0, .int a1] [(q0, .inr (4, [.ref q1, .int v0.2])), (q1, .inl (G.2.2.1, N, .inl v0.1))] (fun _ : Unit => some (.int res)) (fun _ => [(q0, .inr (4, [.ref q1, .int v0.2])), (q1, .inl (G.2.2.1, N, .inl v0.1))]) 0 0 := by
  have hw0 : Cond.fieldLink RX5 21 "TelexReceiver$Row" "size" "I" ∈ wsX5_find := by decide +kernel
  have hiX5 : ∀ w ∈ u_ws RX5 TX5 2, w ∈ wsX5_find := by decide +kernel
  refine zg_of (own := RX5) (cc := cX5_find) (nL := 3) (ret := (some .int)) (by decide +kernel) rfl rfl (Nat.le_of_ble_eq_true rfl) (fun Z X hF => ?_)
  show zgGd G Z _ 0 0 3 _ 0 [(0, .ref q0), (1, .int a1)] []
  have hL2 : ∀ (n : Nat) (y1 : Int32) (y2 : Int32), zf_X5_find_L2 fu N v0 n y1 y2 = some res → zgGd G Z ({ frames := 1, cells := 0, slots := 0, locals := 21 } : Room) 0 0 3 [(q0, .inr (4, [.ref q1, .int v0.2])), (q1, .inl (G.2.2.1, N, .inl v0.1))] 2 [(0, .ref q0), (1, .int y1), (2, .int y2)] [] := by
    intro n
    induction n with
    | zero =>
      intro y1 y2 hf
      rw [zf_X5_find_L2] at hf
      cases hf
    | succ n2 ih2 =>
      intro y1 y2 hf
      rw [zf_X5_find_L2] at hf
      refine zg_iload_n X dX5_find_2 rfl 2 rfl ?_
      refine zg_aload_n X dX5_find_3 rfl 0 rfl ?_
      refine zg_get (C := RX5) (T := TX5) (N := 2) X 0 1 hiX5 rfl rfl (by decide) hw0 rfl dX5_find_4 ?_
      refine zg_icmp_ge (tgt := 27) X dX5_find_7 (by decide) (fun c1 => ?_) (fun c1 => ?_)
      · have hf := pl_t c1 hf
        refine zg_iconst (v := (-1)) X dX5_find_27 (by decide) ?_
        have hf := Option.some.inj hf
        subst hf
        exact zg_iret X hF rfl rfl () rfl rfl (Nat.le_of_ble_eq_true rfl) (Nat.le_of_ble_eq_true rfl) dX5_find_28
      · have hf := pl_f c1 hf
        refine zg_aload_n X dX5_find_10 rfl 0 rfl ?_
        refine zg_iload_n X dX5_find_11 rfl 2 rfl ?_
        obtain ⟨b2, hb2, hf⟩ := pl_b hf
        refine zg_cP1 X (zg_runV X (zc_X5_at G q0 q1 N v0 y2 fu b2 hb2) gX5_find_X5_at rfl zh_X5_at ⟨rfl, rfl⟩ ⟨Nat.le_of_ble_eq_true rfl, Nat.le_of_ble_eq_true rfl⟩ rfl rfl rfl (Nat.le_of_ble_eq_true rfl) ⟨Nat.le_of_ble_eq_true rfl, Nat.le_of_ble_eq_true rfl⟩ [0, 1] (by decide) rfl rfl dX5_find_12) rfl ?_
        refine zg_iload_n X dX5_find_15 rfl 1 rfl ?_
        refine zg_icmp_ne (tgt := 21) X dX5_find_16 (by decide) (fun c3 => ?_) (fun c3 => ?_)
        · have hf := pl_f c3 hf
          obtain ⟨x4, ex4, hf⟩ := pl_l hf
          refine zg_iinc (v := x4) (L' := [(2, .int x4), (0, .ref q0), (1, .int y1)]) X dX5_find_21 (j := 2) rfl (by rw [ex4]; rfl) (by decide) rfl ?_
          refine zg_goto (tgt := 2) X dX5_find_24 (by decide) ?_
          refine zg_loc [1, 2, 0] rfl ?_
          exact ih2 y1 x4 hf
        · have hf := pl_t c3 hf
          refine zg_iload_n X dX5_find_19 rfl 2 rfl ?_
          have hf := Option.some.inj hf
          subst hf
          exact zg_iret X hF rfl rfl () rfl rfl (Nat.le_of_ble_eq_true rfl) (Nat.le_of_ble_eq_true rfl) dX5_find_20
  unfold zf_X5_find at hf
  refine zg_iconst (v := 0) X dX5_find_0 (by decide) ?_
  refine zg_istore_n (L' := [(2, .int 0), (0, .ref q0), (1, .int a1)]) X dX5_find_1 rfl (by decide) rfl ?_
  refine zg_loc [1, 2, 0] rfl ?_
  exact hL2 fu a1 0 hf
theorem zh_X5_count : yX5_count.cls = RX5 ∧ yX5_count.cls ≠ "java/lang/invoke/MethodHandle" ∧ yX5_count.cls ≠ "java/lang/invoke/VarHandle" ∧ (parseMethodDescriptor yX5_count.desc).map (fun d => d.parameters.length) = some 1 := by decide +kernel
set_option maxHeartbeats 8000000 in
set_option maxRecDepth 100000 in
theorem zc_X5_count (G : zgG) (q0 q1 : Nat) (N : Nat) (v0 : zRow) (a1 : Int32) (fu : Nat) (res : Int32) (hf : zf_X5_count fu N v0 a1 = some res) : zgCt G yX5_count wsX5_count ({ frames := 1, cells := 0, slots := 0, locals := 21 } : Room) [.ref q0, .int a1] [(q0, .inr (4, [.ref q1, .int v0.2])), (q1, .inl (G.2.2.1, N, .inl v0.1))] (fun _ : Unit => some (.int res)) (fun _ => [(q0, .inr (4, [.ref q1, .int v0.2])), (q1, .inl (G.2.2.1, N, .inl v0.1))]) 0 0 := by
  have hw0 : Cond.fieldLink RX5 21 "TelexReceiver$Row" "size" "I" ∈ wsX5_count := by decide +kernel
  have hiX5 : ∀ w ∈ u_ws RX5 TX5 2, w ∈ wsX5_count := by decide +kernel
  refine zg_of (own := RX5) (cc := cX5_count) (nL := 4) (ret := (some .int)) (by decide +kernel) rfl rfl (Nat.le_of_ble_eq_true rfl) (fun Z X hF => ?_)
  show zgGd G Z _ 0 0 4 _ 0 [(0, .ref q0), (1, .int a1)] []
  have hL4 : ∀ (n : Nat) (y1 : Int32) (y2 : Int32) (y3 : Int32), zf_X5_count_L4 fu N v0 n y1 y2 y3 = some res → zgGd G Z ({ frames := 1, cells := 0, slots := 0, locals := 21 } : Room) 0 0 4 [(q0, .inr (4, [.ref q1, .int v0.2])), (q1, .inl (G.2.2.1, N, .inl v0.1))] 4 [(0, .ref q0), (1, .int y1), (2, .int y2), (3, .int y3)] [] := by
    intro n
    induction n with
    | zero =>
      intro y1 y2 y3 hf
      rw [zf_X5_count_L4] at hf
      cases hf
    | succ n4 ih4 =>
      have hb24 : ∀ (y1 : Int32) (y2 : Int32) (y3 : Int32), zf_X5_count_b24 fu N v0 (zf_X5_count_L4 fu N v0 n4) y1 y2 y3 = some res → zgGd G Z ({ frames := 1, cells := 0, slots := 0, locals := 21 } : Room) 0 0 4 [(q0, .inr (4, [.ref q1, .int v0.2])), (q1, .inl (G.2.2.1, N, .inl v0.1))] 24 [(0, .ref q0), (1, .int y1), (2, .int y2), (3, .int y3)] [] := by
        intro y1 y2 y3 hf
        unfold zf_X5_count_b24 at hf
        obtain ⟨x5, ex5, hf⟩ := pl_l hf
        refine zg_iinc (v := x5) (L' := [(3, .int x5), (0, .ref q0), (1, .int y1), (2, .int y2)]) X dX5_count_24 (j := 3) rfl (by rw [ex5]; rfl) (by decide) rfl ?_
        refine zg_goto (tgt := 4) X dX5_count_27 (by decide) ?_
        refine zg_loc [1, 2, 3, 0] rfl ?_
        exact ih4 y1 y2 x5 hf
      intro y1 y2 y3 hf
      rw [zf_X5_count_L4] at hf
      refine zg_iload_n X dX5_count_4 rfl 3 rfl ?_
      refine zg_aload_n X dX5_count_5 rfl 0 rfl ?_
      refine zg_get (C := RX5) (T := TX5) (N := 2) X 0 1 hiX5 rfl rfl (by decide) hw0 rfl dX5_count_6 ?_
      refine zg_icmp_ge (tgt := 30) X dX5_count_9 (by decide) (fun c1 => ?_) (fun c1 => ?_)
      · have hf := pl_t c1 hf
        refine zg_iload_n X dX5_count_30 rfl 2 rfl ?_
        have hf := Option.some.inj hf
        subst hf
        exact zg_iret X hF rfl rfl () rfl rfl (Nat.le_of_ble_eq_true rfl) (Nat.le_of_ble_eq_true rfl) dX5_count_31
      · have hf := pl_f c1 hf
        refine zg_aload_n X dX5_count_12 rfl 0 rfl ?_
        refine zg_iload_n X dX5_count_13 rfl 3 rfl ?_
        obtain ⟨b2, hb2, hf⟩ := pl_b hf
        refine zg_cP1 X (zg_runV X (zc_X5_at G q0 q1 N v0 y3 fu b2 hb2) gX5_count_X5_at rfl zh_X5_at ⟨rfl, rfl⟩ ⟨Nat.le_of_ble_eq_true rfl, Nat.le_of_ble_eq_true rfl⟩ rfl rfl rfl (Nat.le_of_ble_eq_true rfl) ⟨Nat.le_of_ble_eq_true rfl, Nat.le_of_ble_eq_true rfl⟩ [0, 1] (by decide) rfl rfl dX5_count_14) rfl ?_
        refine zg_iload_n X dX5_count_17 rfl 1 rfl ?_
        refine zg_icmp_ne (tgt := 24) X dX5_count_18 (by decide) (fun c3 => ?_) (fun c3 => ?_)
        · have hf := pl_f c3 hf
          exact hb24 y1 y2 y3 hf
        · have hf := pl_t c3 hf
          obtain ⟨x4, ex4, hf⟩ := pl_l hf
          refine zg_iinc (v := x4) (L' := [(2, .int x4), (0, .ref q0), (1, .int y1), (3, .int y3)]) X dX5_count_21 (j := 2) rfl (by rw [ex4]; rfl) (by decide) rfl ?_
          refine zg_loc [1, 2, 0, 3] rfl ?_
          exact hb24 y1 x4 y3 hf
  unfold zf_X5_count at hf
  refine zg_iconst (v := 0) X dX5_count_0 (by decide) ?_
  refine zg_istore_n (L' := [(2, .int 0), (0, .ref q0), (1, .int a1)]) X dX5_count_1 rfl (by decide) rfl ?_
  refine zg_iconst (v := 0) X dX5_count_2 (by decide) ?_
  refine zg_istore_n (L' := [(3, .int 0), (2, .int 0), (0, .ref q0), (1, .int a1)]) X dX5_count_3 rfl (by decide) rfl ?_
  refine zg_loc [2, 3, 1, 0] rfl ?_
  exact hL4 fu a1 0 0 hf
theorem zh_X5_hashOnto : yX5_hashOnto.cls = RX5 ∧ yX5_hashOnto.cls ≠ "java/lang/invoke/MethodHandle" ∧ yX5_hashOnto.cls ≠ "java/lang/invoke/VarHandle" ∧ (parseMethodDescriptor yX5_hashOnto.desc).map (fun d => d.parameters.length) = some 1 := by decide +kernel
set_option maxHeartbeats 8000000 in
set_option maxRecDepth 100000 in
theorem zc_X5_hashOnto (G : zgG) (q0 q1 : Nat) (N : Nat) (v0 : zRow) (a1 : Int64) (fu : Nat) (res : Int64) (hf : zf_X5_hashOnto fu N v0 a1 = some res) : zgCt G yX5_hashOnto wsX5_hashOnto ({ frames := 1, cells := 0, slots := 0, locals := 21 } : Room) [.ref q0, .long a1] [(q0, .inr (4, [.ref q1, .int v0.2])), (q1, .inl (G.2.2.1, N, .inl v0.1))] (fun _ : Unit => some (.long res)) (fun _ => [(q0, .inr (4, [.ref q1, .int v0.2])), (q1, .inl (G.2.2.1, N, .inl v0.1))]) 0 0 := by
  have hw0 : Cond.fieldLink RX5 21 "TelexReceiver$Row" "size" "I" ∈ wsX5_hashOnto := by decide +kernel
  have hw1 : Cond.constantLong RX5 44 (31) ∈ wsX5_hashOnto := by decide +kernel
  have hiX5 : ∀ w ∈ u_ws RX5 TX5 2, w ∈ wsX5_hashOnto := by decide +kernel
  refine zg_of (own := RX5) (cc := cX5_hashOnto) (nL := 6) (ret := (some .long)) (by decide +kernel) rfl rfl (Nat.le_of_ble_eq_true rfl) (fun Z X hF => ?_)
  show zgGd G Z _ 0 0 6 _ 0 [(0, .ref q0), (1, .long a1)] []
  have hL5 : ∀ (n : Nat) (y3 : Int64) (y5 : Int32), zf_X5_hashOnto_L5 fu N v0 n y3 y5 = some res → zgGd G Z ({ frames := 1, cells := 0, slots := 0, locals := 21 } : Room) 0 0 6 [(q0, .inr (4, [.ref q1, .int v0.2])), (q1, .inl (G.2.2.1, N, .inl v0.1))] 5 [(0, .ref q0), (3, .long y3), (5, .int y5)] [] := by
    intro n
    induction n with
    | zero =>
      intro y3 y5 hf
      rw [zf_X5_hashOnto_L5] at hf
      cases hf
    | succ n5 ih5 =>
      intro y3 y5 hf
      rw [zf_X5_hashOnto_L5] at hf
      refine zg_iload X dX5_hashOnto_5 2 rfl ?_
      refine zg_aload_n X dX5_hashOnto_7 rfl 0 rfl ?_
      refine zg_get (C := RX5) (T := TX5) (N := 2) X 0 1 hiX5 rfl rfl (by decide) hw0 rfl dX5_hashOnto_8 ?_
      refine zg_icmp_ge (tgt := 34) X dX5_hashOnto_11 (by decide) (fun c1 => ?_) (fun c1 => ?_)
      · have hf := pl_t c1 hf
        refine zg_lload_n X dX5_hashOnto_34 rfl 1 rfl ?_
        have hf := Option.some.inj hf
        subst hf
        exact zg_lret X hF () rfl rfl (Nat.le_of_ble_eq_true rfl) (Nat.le_of_ble_eq_true rfl) dX5_hashOnto_35
      · have hf := pl_f c1 hf
        refine zg_ldc2 (v := 31) X dX5_hashOnto_14 hw1 ?_
        refine zg_lload_n X dX5_hashOnto_17 rfl 1 rfl ?_
        refine zg_lmul X dX5_hashOnto_18 ?_
        refine zg_aload_n X dX5_hashOnto_19 rfl 0 rfl ?_
        refine zg_iload X dX5_hashOnto_20 2 rfl ?_
        obtain ⟨b2, hb2, hf⟩ := pl_b hf
        refine zg_cP1 X (zg_runV X (zc_X5_at G q0 q1 N v0 y5 fu b2 hb2) gX5_hashOnto_X5_at rfl zh_X5_at ⟨rfl, rfl⟩ ⟨Nat.le_of_ble_eq_true rfl, Nat.le_of_ble_eq_true rfl⟩ rfl rfl rfl (Nat.le_of_ble_eq_true rfl) ⟨Nat.le_of_ble_eq_true rfl, Nat.le_of_ble_eq_true rfl⟩ [0, 1] (by decide) rfl rfl dX5_hashOnto_22) rfl ?_
        refine zg_i2l X dX5_hashOnto_25 ?_
        refine zg_ladd X dX5_hashOnto_26 ?_
        obtain ⟨x3, ex3, hf⟩ := pl_l hf
        refine zg_topl ex3 ?_
        refine zg_lstore_n (L' := [(3, .long x3), (0, .ref q0), (5, .int y5)]) X dX5_hashOnto_27 rfl (by decide) rfl ?_
        obtain ⟨x4, ex4, hf⟩ := pl_l hf
        refine zg_iinc (v := x4) (L' := [(5, .int x4), (3, .long x3), (0, .ref q0)]) X dX5_hashOnto_28 (j := 2) rfl (by rw [ex4]; rfl) (by decide) rfl ?_
        refine zg_goto (tgt := 5) X dX5_hashOnto_31 (by decide) ?_
        refine zg_loc [2, 1, 0] rfl ?_
        exact ih5 x3 x4 hf
  unfold zf_X5_hashOnto at hf
  refine zg_lload_n X dX5_hashOnto_0 rfl 1 rfl ?_
  refine zg_lstore_n (L' := [(3, .long a1), (0, .ref q0), (1, .long a1)]) X dX5_hashOnto_1 rfl (by decide) rfl ?_
  refine zg_iconst (v := 0) X dX5_hashOnto_2 (by decide) ?_
  refine zg_istore (L' := [(5, .int 0), (3, .long a1), (0, .ref q0), (1, .long a1)]) X dX5_hashOnto_3 (by decide) rfl ?_
  refine zg_loc [2, 1, 0] rfl ?_
  exact hL5 fu a1 0 hf
