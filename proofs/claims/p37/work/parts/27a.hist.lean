theorem zh_X2_stateAt : yX2_stateAt.cls = RX2 ∧ yX2_stateAt.cls ≠ "java/lang/invoke/MethodHandle" ∧ yX2_stateAt.cls ≠ "java/lang/invoke/VarHandle" ∧ (parseMethodDescriptor yX2_stateAt.desc).map (fun d => d.parameters.length) = some 1 := by decide +kernel
set_option maxHeartbeats 4000000 in
set_option maxRecDepth 100000 in
theorem zc_X2_stateAt (G : zgG) (q0 q1 : Nat) (c : Int32) (l : List Nat) (i b : Nat) (hi : i < 6) (hb : l[i]? = some b) : zgCt G yX2_stateAt wsX2_stateAt ({ frames := 0, cells := 0, slots := 0, locals := 0 } : Room) [.ref q0, .int (nI i)] [(q0, .inr (1, [.ref q1, .int c])), (q1, .inl (G.2.2.2.1, 6, .inr (.inr (.inr (.inr (zSt l))))))] (fun _ : Unit => some (.ref b)) (fun _ => [(q0, .inr (1, [.ref q1, .int c])), (q1, .inl (G.2.2.2.1, 6, .inr (.inr (.inr (.inr (zSt l))))))]) 0 0 := by
  have hw0 : Cond.fieldLink RX2 11 "TelexReceiver$History" "states" "[LTelexReceiver$Saved;" ∈ wsX2_stateAt := by decide +kernel
  have hiX2 : ∀ w ∈ u_ws RX2 TX2 2, w ∈ wsX2_stateAt := by decide +kernel
  refine zg_of (own := RX2) (cc := cX2_stateAt) (nL := 2) (ret := (some (.object "TelexReceiver$Saved"))) (by decide +kernel) rfl rfl (Nat.le_of_ble_eq_true rfl) (fun Z X hF => ?_)
  show zgGd G Z _ 0 0 2 _ 0 [(0, .ref q0), (1, .int (nI i))] []
  refine zg_iload_n X dX2_stateAt_0 rfl 1 rfl ?_
  refine zg_if_lt (tgt := 22) X dX2_stateAt_1 (by decide) (fun c => ?_) (fun c => ?_)
  · exact absurd c (nI_pos (by omega))
  refine zg_iload_n X dX2_stateAt_4 rfl 1 rfl ?_
  refine zg_aload_n X dX2_stateAt_5 rfl 0 rfl ?_
  refine zg_get (C := RX2) (T := TX2) (N := 2) X 0 0 hiX2 rfl rfl (by decide) hw0 rfl dX2_stateAt_6 ?_
  refine zg_alen (v := nI 6) X 1 1 rfl rfl rfl dX2_stateAt_9 ?_
  refine zg_icmp_ge (tgt := 22) X dX2_stateAt_10 (by decide) (fun c => ?_) (fun c => ?_)
  · exact absurd c (nI_ge hi (by omega))
  refine zg_aload_n X dX2_stateAt_13 rfl 0 rfl ?_
  refine zg_get (C := RX2) (T := TX2) (N := 2) X 0 0 hiX2 rfl rfl (by decide) hw0 rfl dX2_stateAt_14 ?_
  refine zg_iload_n X dX2_stateAt_17 rfl 1 rfl ?_
  refine zg_aald (v := .ref b) X 1 rfl (vp_in_nI hi (by omega)) (by rw [nI_clamp (by omega)]; show va_rf l[i]? = _; rw [hb]; rfl) dX2_stateAt_18 ?_
  refine zg_goto (tgt := 23) X dX2_stateAt_19 (by decide) ?_
  exact zg_aret X hF rfl (Or.inr ⟨_, rfl⟩) () rfl rfl (Nat.le_of_ble_eq_true rfl) (Nat.le_of_ble_eq_true rfl) dX2_stateAt_23
