theorem zh_X2_discardOldest : yX2_discardOldest.cls = RX2 ∧ yX2_discardOldest.cls ≠ "java/lang/invoke/MethodHandle" ∧ yX2_discardOldest.cls ≠ "java/lang/invoke/VarHandle" ∧ (parseMethodDescriptor yX2_discardOldest.desc).map (fun d => d.parameters.length) = some 0 := by decide +kernel
set_option maxHeartbeats 8000000 in
set_option maxRecDepth 100000 in
theorem zc_X2_discardOldest (G : zgG) (q0 q1 : Nat) (hb : Nat → Nat) (sv : Nat → zSaved) (c : Int32) : zgCt G yX2_discardOldest wsX2_discardOldest ({ frames := 1, cells := 0, slots := 0, locals := 21 } : Room) [.ref q0] [(q0, .inr (1, [.ref q1, .int c])), (q1, .inl (G.2.2.2.1, 6, .inr (.inr (.inr (.inr (zSt [(hb 0), (hb 5), (hb 10), (hb 15), (hb 20), (hb 25)])))))), ((hb 0), .inr (5, [.ref (hb 1), .ref (hb 3), .int ((sv 0).2.2.1), .int ((sv 0).2.2.2.1), .int ((sv 0).2.2.2.2.1), .int ((sv 0).2.2.2.2.2.1), .int ((sv 0).2.2.2.2.2.2)])), ((hb 5), .inr (5, [.ref (hb 6), .ref (hb 8), .int ((sv 1).2.2.1), .int ((sv 1).2.2.2.1), .int ((sv 1).2.2.2.2.1), .int ((sv 1).2.2.2.2.2.1), .int ((sv 1).2.2.2.2.2.2)])), ((hb 10), .inr (5, [.ref (hb 11), .ref (hb 13), .int ((sv 2).2.2.1), .int ((sv 2).2.2.2.1), .int ((sv 2).2.2.2.2.1), .int ((sv 2).2.2.2.2.2.1), .int ((sv 2).2.2.2.2.2.2)])), ((hb 15), .inr (5, [.ref (hb 16), .ref (hb 18), .int ((sv 3).2.2.1), .int ((sv 3).2.2.2.1), .int ((sv 3).2.2.2.2.1), .int ((sv 3).2.2.2.2.2.1), .int ((sv 3).2.2.2.2.2.2)])), ((hb 20), .inr (5, [.ref (hb 21), .ref (hb 23), .int ((sv 4).2.2.1), .int ((sv 4).2.2.2.1), .int ((sv 4).2.2.2.2.1), .int ((sv 4).2.2.2.2.2.1), .int ((sv 4).2.2.2.2.2.2)])), ((hb 25), .inr (5, [.ref (hb 26), .ref (hb 28), .int ((sv 5).2.2.1), .int ((sv 5).2.2.2.1), .int ((sv 5).2.2.2.2.1), .int ((sv 5).2.2.2.2.2.1), .int ((sv 5).2.2.2.2.2.2)]))] (fun _ : Unit => none) (fun _ => [(q0, .inr (1, [.ref q1, .int 5])), (q1, .inl (G.2.2.2.1, 6, .inr (.inr (.inr (.inr (zSt [(hb 5), (hb 10), (hb 15), (hb 20), (hb 25), (hb 0)])))))), ((hb 0), .inr (5, [.ref (hb 1), .ref (hb 3), .int ((sv 0).2.2.1), .int ((sv 0).2.2.2.1), .int ((sv 0).2.2.2.2.1), .int ((sv 0).2.2.2.2.2.1), .int ((sv 0).2.2.2.2.2.2)])), ((hb 5), .inr (5, [.ref (hb 6), .ref (hb 8), .int ((sv 1).2.2.1), .int ((sv 1).2.2.2.1), .int ((sv 1).2.2.2.2.1), .int ((sv 1).2.2.2.2.2.1), .int ((sv 1).2.2.2.2.2.2)])), ((hb 10), .inr (5, [.ref (hb 11), .ref (hb 13), .int ((sv 2).2.2.1), .int ((sv 2).2.2.2.1), .int ((sv 2).2.2.2.2.1), .int ((sv 2).2.2.2.2.2.1), .int ((sv 2).2.2.2.2.2.2)])), ((hb 15), .inr (5, [.ref (hb 16), .ref (hb 18), .int ((sv 3).2.2.1), .int ((sv 3).2.2.2.1), .int ((sv 3).2.2.2.2.1), .int ((sv 3).2.2.2.2.2.1), .int ((sv 3).2.2.2.2.2.2)])), ((hb 20), .inr (5, [.ref (hb 21), .ref (hb 23), .int ((sv 4).2.2.1), .int ((sv 4).2.2.2.1), .int ((sv 4).2.2.2.2.1), .int ((sv 4).2.2.2.2.2.1), .int ((sv 4).2.2.2.2.2.2)])), ((hb 25), .inr (5, [.ref (hb 26), .ref (hb 28), .int ((sv 5).2.2.1), .int ((sv 5).2.2.2.1), .int ((sv 5).2.2.2.2.1), .int ((sv 5).2.2.2.2.2.1), .int ((sv 5).2.2.2.2.2.2)]))]) 0 0 := by
  have hw0 : Cond.fieldLink RX2 11 "TelexReceiver$History" "states" "[LTelexReceiver$Saved;" ∈ wsX2_discardOldest := by decide +kernel
  have hw1 : Cond.fieldLink RX2 18 "TelexReceiver$History" "count" "I" ∈ wsX2_discardOldest := by decide +kernel
  have hiX2 : ∀ w ∈ u_ws RX2 TX2 2, w ∈ wsX2_discardOldest := by decide +kernel
  refine zg_of (own := RX2) (cc := cX2_discardOldest) (nL := 3) (ret := none) (by decide +kernel) rfl rfl (Nat.le_of_ble_eq_true rfl) (fun Z X hF => ?_)
  show zgGd G Z _ 0 0 3 _ 0 [(0, .ref q0)] []
  refine zg_aload_n X dX2_discardOldest_0 rfl 0 rfl ?_
  refine zg_iconst (v := 0) X dX2_discardOldest_1 (by decide) ?_
  refine zg_cP1 X (zg_runV X (zc_X2_stateAt G q0 q1 c [(hb 0), (hb 5), (hb 10), (hb 15), (hb 20), (hb 25)] 0 (hb 0) (by decide) rfl) gX2_discardOldest_X2_stateAt rfl zh_X2_stateAt ⟨rfl, rfl⟩ ⟨Nat.le_of_ble_eq_true rfl, Nat.le_of_ble_eq_true rfl⟩ rfl rfl rfl (Nat.le_of_ble_eq_true rfl) ⟨Nat.le_of_ble_eq_true rfl, Nat.le_of_ble_eq_true rfl⟩ [0, 1] (by decide) rfl rfl dX2_discardOldest_2) rfl ?_
  refine zg_astore_n (L' := [(1, .ref (hb 0)), (0, .ref q0)]) X dX2_discardOldest_5 rfl (by decide) rfl ?_
  refine zg_iconst (v := 1) X dX2_discardOldest_6 (by decide) ?_
  refine zg_istore_n (L' := [(2, .int 1), (1, .ref (hb 0)), (0, .ref q0)]) X dX2_discardOldest_7 rfl (by decide) rfl ?_
  refine zg_iload_n X dX2_discardOldest_8 rfl 0 rfl ?_
  refine zg_aload_n X dX2_discardOldest_9 rfl 2 rfl ?_
  refine zg_get (C := RX2) (T := TX2) (N := 2) X 0 0 hiX2 rfl rfl (by decide) hw0 rfl dX2_discardOldest_10 ?_
  refine zg_alen (v := 6) X 1 1 rfl rfl (by decide) dX2_discardOldest_13 ?_
  refine zg_icmp_ge (tgt := 37) X dX2_discardOldest_14 (by decide) (fun cc0 => ?_) (fun cc0 => ?_)
  · exact absurd cc0 (by decide)
  refine zg_aload_n X dX2_discardOldest_17 rfl 2 rfl ?_
  refine zg_get (C := RX2) (T := TX2) (N := 2) X 0 0 hiX2 rfl rfl (by decide) hw0 rfl dX2_discardOldest_18 ?_
  refine zg_iload_n X dX2_discardOldest_21 rfl 0 rfl ?_
  refine zg_iconst (v := 1) X dX2_discardOldest_22 (by decide) ?_
  refine zg_isub X dX2_discardOldest_23 ?_
  refine zg_topi (y := 0) (by decide) ?_
  refine zg_aload_n X dX2_discardOldest_24 rfl 2 rfl ?_
  refine zg_get (C := RX2) (T := TX2) (N := 2) X 0 0 hiX2 rfl rfl (by decide) hw0 rfl dX2_discardOldest_25 ?_
  refine zg_iload_n X dX2_discardOldest_28 rfl 0 rfl ?_
  refine zg_pc 29 rfl ?_
  refine zg_aald (v := .ref (hb 5)) X 1 rfl (by unfold vp_in; decide) rfl dX2_discardOldest_29 ?_
  refine zg_aast (ws' := [(q0, .inr (1, [.ref q1, .int c])), (q1, .inl (G.2.2.2.1, 6, .inr (.inr (.inr (.inr (zSt [(hb 5), (hb 5), (hb 10), (hb 15), (hb 20), (hb 25)])))))), ((hb 0), .inr (5, [.ref (hb 1), .ref (hb 3), .int ((sv 0).2.2.1), .int ((sv 0).2.2.2.1), .int ((sv 0).2.2.2.2.1), .int ((sv 0).2.2.2.2.2.1), .int ((sv 0).2.2.2.2.2.2)])), ((hb 5), .inr (5, [.ref (hb 6), .ref (hb 8), .int ((sv 1).2.2.1), .int ((sv 1).2.2.2.1), .int ((sv 1).2.2.2.2.1), .int ((sv 1).2.2.2.2.2.1), .int ((sv 1).2.2.2.2.2.2)])), ((hb 10), .inr (5, [.ref (hb 11), .ref (hb 13), .int ((sv 2).2.2.1), .int ((sv 2).2.2.2.1), .int ((sv 2).2.2.2.2.1), .int ((sv 2).2.2.2.2.2.1), .int ((sv 2).2.2.2.2.2.2)])), ((hb 15), .inr (5, [.ref (hb 16), .ref (hb 18), .int ((sv 3).2.2.1), .int ((sv 3).2.2.2.1), .int ((sv 3).2.2.2.2.1), .int ((sv 3).2.2.2.2.2.1), .int ((sv 3).2.2.2.2.2.2)])), ((hb 20), .inr (5, [.ref (hb 21), .ref (hb 23), .int ((sv 4).2.2.1), .int ((sv 4).2.2.2.1), .int ((sv 4).2.2.2.2.1), .int ((sv 4).2.2.2.2.2.1), .int ((sv 4).2.2.2.2.2.2)])), ((hb 25), .inr (5, [.ref (hb 26), .ref (hb 28), .int ((sv 5).2.2.1), .int ((sv 5).2.2.2.1), .int ((sv 5).2.2.2.2.1), .int ((sv 5).2.2.2.2.2.1), .int ((sv 5).2.2.2.2.2.2)]))]) X 1 3 rfl rfl (by unfold vp_in; decide) (by rw [show ((0 : Int32).toNatClampNeg) = 0 from rfl, zSt_up _ _ _ (Nat.le_of_ble_eq_true rfl)]; rfl) dX2_discardOldest_30 ?_
  refine zg_iinc (v := 2) (L' := [(2, .int 2), (1, .ref (hb 0)), (0, .ref q0)]) X dX2_discardOldest_31 (j := 0) rfl (by decide) (by decide) rfl ?_
  refine zg_goto (tgt := 8) X dX2_discardOldest_34 (by decide) ?_
  refine zg_iload_n X dX2_discardOldest_8 rfl 0 rfl ?_
  refine zg_aload_n X dX2_discardOldest_9 rfl 2 rfl ?_
  refine zg_get (C := RX2) (T := TX2) (N := 2) X 0 0 hiX2 rfl rfl (by decide) hw0 rfl dX2_discardOldest_10 ?_
  refine zg_alen (v := 6) X 1 1 rfl rfl (by decide) dX2_discardOldest_13 ?_
  refine zg_icmp_ge (tgt := 37) X dX2_discardOldest_14 (by decide) (fun cc0 => ?_) (fun cc0 => ?_)
  · exact absurd cc0 (by decide)
  refine zg_aload_n X dX2_discardOldest_17 rfl 2 rfl ?_
  refine zg_get (C := RX2) (T := TX2) (N := 2) X 0 0 hiX2 rfl rfl (by decide) hw0 rfl dX2_discardOldest_18 ?_
  refine zg_iload_n X dX2_discardOldest_21 rfl 0 rfl ?_
  refine zg_iconst (v := 1) X dX2_discardOldest_22 (by decide) ?_
  refine zg_isub X dX2_discardOldest_23 ?_
  refine zg_topi (y := 1) (by decide) ?_
  refine zg_aload_n X dX2_discardOldest_24 rfl 2 rfl ?_
  refine zg_get (C := RX2) (T := TX2) (N := 2) X 0 0 hiX2 rfl rfl (by decide) hw0 rfl dX2_discardOldest_25 ?_
  refine zg_iload_n X dX2_discardOldest_28 rfl 0 rfl ?_
  refine zg_aald (v := .ref (hb 10)) X 1 rfl (by unfold vp_in; decide) rfl dX2_discardOldest_29 ?_
  refine zg_aast (ws' := [(q0, .inr (1, [.ref q1, .int c])), (q1, .inl (G.2.2.2.1, 6, .inr (.inr (.inr (.inr (zSt [(hb 5), (hb 10), (hb 10), (hb 15), (hb 20), (hb 25)])))))), ((hb 0), .inr (5, [.ref (hb 1), .ref (hb 3), .int ((sv 0).2.2.1), .int ((sv 0).2.2.2.1), .int ((sv 0).2.2.2.2.1), .int ((sv 0).2.2.2.2.2.1), .int ((sv 0).2.2.2.2.2.2)])), ((hb 5), .inr (5, [.ref (hb 6), .ref (hb 8), .int ((sv 1).2.2.1), .int ((sv 1).2.2.2.1), .int ((sv 1).2.2.2.2.1), .int ((sv 1).2.2.2.2.2.1), .int ((sv 1).2.2.2.2.2.2)])), ((hb 10), .inr (5, [.ref (hb 11), .ref (hb 13), .int ((sv 2).2.2.1), .int ((sv 2).2.2.2.1), .int ((sv 2).2.2.2.2.1), .int ((sv 2).2.2.2.2.2.1), .int ((sv 2).2.2.2.2.2.2)])), ((hb 15), .inr (5, [.ref (hb 16), .ref (hb 18), .int ((sv 3).2.2.1), .int ((sv 3).2.2.2.1), .int ((sv 3).2.2.2.2.1), .int ((sv 3).2.2.2.2.2.1), .int ((sv 3).2.2.2.2.2.2)])), ((hb 20), .inr (5, [.ref (hb 21), .ref (hb 23), .int ((sv 4).2.2.1), .int ((sv 4).2.2.2.1), .int ((sv 4).2.2.2.2.1), .int ((sv 4).2.2.2.2.2.1), .int ((sv 4).2.2.2.2.2.2)])), ((hb 25), .inr (5, [.ref (hb 26), .ref (hb 28), .int ((sv 5).2.2.1), .int ((sv 5).2.2.2.1), .int ((sv 5).2.2.2.2.1), .int ((sv 5).2.2.2.2.2.1), .int ((sv 5).2.2.2.2.2.2)]))]) X 1 4 rfl rfl (by unfold vp_in; decide) (by rw [show ((1 : Int32).toNatClampNeg) = 1 from rfl, zSt_up _ _ _ (Nat.le_of_ble_eq_true rfl)]; rfl) dX2_discardOldest_30 ?_
  refine zg_iinc (v := 3) (L' := [(2, .int 3), (1, .ref (hb 0)), (0, .ref q0)]) X dX2_discardOldest_31 (j := 0) rfl (by decide) (by decide) rfl ?_
  refine zg_pc 34 rfl ?_
  refine zg_goto (tgt := 8) X dX2_discardOldest_34 (by decide) ?_
  refine zg_iload_n X dX2_discardOldest_8 rfl 0 rfl ?_
  refine zg_aload_n X dX2_discardOldest_9 rfl 2 rfl ?_
  refine zg_get (C := RX2) (T := TX2) (N := 2) X 0 0 hiX2 rfl rfl (by decide) hw0 rfl dX2_discardOldest_10 ?_
  refine zg_alen (v := 6) X 1 1 rfl rfl (by decide) dX2_discardOldest_13 ?_
  refine zg_icmp_ge (tgt := 37) X dX2_discardOldest_14 (by decide) (fun cc0 => ?_) (fun cc0 => ?_)
  · exact absurd cc0 (by decide)
  refine zg_aload_n X dX2_discardOldest_17 rfl 2 rfl ?_
  refine zg_get (C := RX2) (T := TX2) (N := 2) X 0 0 hiX2 rfl rfl (by decide) hw0 rfl dX2_discardOldest_18 ?_
  refine zg_iload_n X dX2_discardOldest_21 rfl 0 rfl ?_
  refine zg_iconst (v := 1) X dX2_discardOldest_22 (by decide) ?_
  refine zg_isub X dX2_discardOldest_23 ?_
  refine zg_topi (y := 2) (by decide) ?_
  refine zg_aload_n X dX2_discardOldest_24 rfl 2 rfl ?_
  refine zg_get (C := RX2) (T := TX2) (N := 2) X 0 0 hiX2 rfl rfl (by decide) hw0 rfl dX2_discardOldest_25 ?_
  refine zg_iload_n X dX2_discardOldest_28 rfl 0 rfl ?_
  refine zg_aald (v := .ref (hb 15)) X 1 rfl (by unfold vp_in; decide) rfl dX2_discardOldest_29 ?_
  refine zg_aast (ws' := [(q0, .inr (1, [.ref q1, .int c])), (q1, .inl (G.2.2.2.1, 6, .inr (.inr (.inr (.inr (zSt [(hb 5), (hb 10), (hb 15), (hb 15), (hb 20), (hb 25)])))))), ((hb 0), .inr (5, [.ref (hb 1), .ref (hb 3), .int ((sv 0).2.2.1), .int ((sv 0).2.2.2.1), .int ((sv 0).2.2.2.2.1), .int ((sv 0).2.2.2.2.2.1), .int ((sv 0).2.2.2.2.2.2)])), ((hb 5), .inr (5, [.ref (hb 6), .ref (hb 8), .int ((sv 1).2.2.1), .int ((sv 1).2.2.2.1), .int ((sv 1).2.2.2.2.1), .int ((sv 1).2.2.2.2.2.1), .int ((sv 1).2.2.2.2.2.2)])), ((hb 10), .inr (5, [.ref (hb 11), .ref (hb 13), .int ((sv 2).2.2.1), .int ((sv 2).2.2.2.1), .int ((sv 2).2.2.2.2.1), .int ((sv 2).2.2.2.2.2.1), .int ((sv 2).2.2.2.2.2.2)])), ((hb 15), .inr (5, [.ref (hb 16), .ref (hb 18), .int ((sv 3).2.2.1), .int ((sv 3).2.2.2.1), .int ((sv 3).2.2.2.2.1), .int ((sv 3).2.2.2.2.2.1), .int ((sv 3).2.2.2.2.2.2)])), ((hb 20), .inr (5, [.ref (hb 21), .ref (hb 23), .int ((sv 4).2.2.1), .int ((sv 4).2.2.2.1), .int ((sv 4).2.2.2.2.1), .int ((sv 4).2.2.2.2.2.1), .int ((sv 4).2.2.2.2.2.2)])), ((hb 25), .inr (5, [.ref (hb 26), .ref (hb 28), .int ((sv 5).2.2.1), .int ((sv 5).2.2.2.1), .int ((sv 5).2.2.2.2.1), .int ((sv 5).2.2.2.2.2.1), .int ((sv 5).2.2.2.2.2.2)]))]) X 1 5 rfl rfl (by unfold vp_in; decide) (by rw [show ((2 : Int32).toNatClampNeg) = 2 from rfl, zSt_up _ _ _ (Nat.le_of_ble_eq_true rfl)]; rfl) dX2_discardOldest_30 ?_
  refine zg_iinc (v := 4) (L' := [(2, .int 4), (1, .ref (hb 0)), (0, .ref q0)]) X dX2_discardOldest_31 (j := 0) rfl (by decide) (by decide) rfl ?_
  refine zg_goto (tgt := 8) X dX2_discardOldest_34 (by decide) ?_
  refine zg_iload_n X dX2_discardOldest_8 rfl 0 rfl ?_
  refine zg_aload_n X dX2_discardOldest_9 rfl 2 rfl ?_
  refine zg_pc 10 rfl ?_
  refine zg_get (C := RX2) (T := TX2) (N := 2) X 0 0 hiX2 rfl rfl (by decide) hw0 rfl dX2_discardOldest_10 ?_
  refine zg_alen (v := 6) X 1 1 rfl rfl (by decide) dX2_discardOldest_13 ?_
  refine zg_icmp_ge (tgt := 37) X dX2_discardOldest_14 (by decide) (fun cc0 => ?_) (fun cc0 => ?_)
  · exact absurd cc0 (by decide)
  refine zg_aload_n X dX2_discardOldest_17 rfl 2 rfl ?_
  refine zg_get (C := RX2) (T := TX2) (N := 2) X 0 0 hiX2 rfl rfl (by decide) hw0 rfl dX2_discardOldest_18 ?_
  refine zg_iload_n X dX2_discardOldest_21 rfl 0 rfl ?_
  refine zg_iconst (v := 1) X dX2_discardOldest_22 (by decide) ?_
  refine zg_isub X dX2_discardOldest_23 ?_
  refine zg_topi (y := 3) (by decide) ?_
  refine zg_aload_n X dX2_discardOldest_24 rfl 2 rfl ?_
  refine zg_get (C := RX2) (T := TX2) (N := 2) X 0 0 hiX2 rfl rfl (by decide) hw0 rfl dX2_discardOldest_25 ?_
  refine zg_iload_n X dX2_discardOldest_28 rfl 0 rfl ?_
  refine zg_aald (v := .ref (hb 20)) X 1 rfl (by unfold vp_in; decide) rfl dX2_discardOldest_29 ?_
  refine zg_aast (ws' := [(q0, .inr (1, [.ref q1, .int c])), (q1, .inl (G.2.2.2.1, 6, .inr (.inr (.inr (.inr (zSt [(hb 5), (hb 10), (hb 15), (hb 20), (hb 20), (hb 25)])))))), ((hb 0), .inr (5, [.ref (hb 1), .ref (hb 3), .int ((sv 0).2.2.1), .int ((sv 0).2.2.2.1), .int ((sv 0).2.2.2.2.1), .int ((sv 0).2.2.2.2.2.1), .int ((sv 0).2.2.2.2.2.2)])), ((hb 5), .inr (5, [.ref (hb 6), .ref (hb 8), .int ((sv 1).2.2.1), .int ((sv 1).2.2.2.1), .int ((sv 1).2.2.2.2.1), .int ((sv 1).2.2.2.2.2.1), .int ((sv 1).2.2.2.2.2.2)])), ((hb 10), .inr (5, [.ref (hb 11), .ref (hb 13), .int ((sv 2).2.2.1), .int ((sv 2).2.2.2.1), .int ((sv 2).2.2.2.2.1), .int ((sv 2).2.2.2.2.2.1), .int ((sv 2).2.2.2.2.2.2)])), ((hb 15), .inr (5, [.ref (hb 16), .ref (hb 18), .int ((sv 3).2.2.1), .int ((sv 3).2.2.2.1), .int ((sv 3).2.2.2.2.1), .int ((sv 3).2.2.2.2.2.1), .int ((sv 3).2.2.2.2.2.2)])), ((hb 20), .inr (5, [.ref (hb 21), .ref (hb 23), .int ((sv 4).2.2.1), .int ((sv 4).2.2.2.1), .int ((sv 4).2.2.2.2.1), .int ((sv 4).2.2.2.2.2.1), .int ((sv 4).2.2.2.2.2.2)])), ((hb 25), .inr (5, [.ref (hb 26), .ref (hb 28), .int ((sv 5).2.2.1), .int ((sv 5).2.2.2.1), .int ((sv 5).2.2.2.2.1), .int ((sv 5).2.2.2.2.2.1), .int ((sv 5).2.2.2.2.2.2)]))]) X 1 6 rfl rfl (by unfold vp_in; decide) (by rw [show ((3 : Int32).toNatClampNeg) = 3 from rfl, zSt_up _ _ _ (Nat.le_of_ble_eq_true rfl)]; rfl) dX2_discardOldest_30 ?_
  refine zg_iinc (v := 5) (L' := [(2, .int 5), (1, .ref (hb 0)), (0, .ref q0)]) X dX2_discardOldest_31 (j := 0) rfl (by decide) (by decide) rfl ?_
  refine zg_goto (tgt := 8) X dX2_discardOldest_34 (by decide) ?_
  refine zg_iload_n X dX2_discardOldest_8 rfl 0 rfl ?_
  refine zg_aload_n X dX2_discardOldest_9 rfl 2 rfl ?_
  refine zg_get (C := RX2) (T := TX2) (N := 2) X 0 0 hiX2 rfl rfl (by decide) hw0 rfl dX2_discardOldest_10 ?_
  refine zg_alen (v := 6) X 1 1 rfl rfl (by decide) dX2_discardOldest_13 ?_
  refine zg_icmp_ge (tgt := 37) X dX2_discardOldest_14 (by decide) (fun cc0 => ?_) (fun cc0 => ?_)
  · exact absurd cc0 (by decide)
  refine zg_pc 17 rfl ?_
  refine zg_aload_n X dX2_discardOldest_17 rfl 2 rfl ?_
  refine zg_get (C := RX2) (T := TX2) (N := 2) X 0 0 hiX2 rfl rfl (by decide) hw0 rfl dX2_discardOldest_18 ?_
  refine zg_iload_n X dX2_discardOldest_21 rfl 0 rfl ?_
  refine zg_iconst (v := 1) X dX2_discardOldest_22 (by decide) ?_
  refine zg_isub X dX2_discardOldest_23 ?_
  refine zg_topi (y := 4) (by decide) ?_
  refine zg_aload_n X dX2_discardOldest_24 rfl 2 rfl ?_
  refine zg_get (C := RX2) (T := TX2) (N := 2) X 0 0 hiX2 rfl rfl (by decide) hw0 rfl dX2_discardOldest_25 ?_
  refine zg_iload_n X dX2_discardOldest_28 rfl 0 rfl ?_
  refine zg_aald (v := .ref (hb 25)) X 1 rfl (by unfold vp_in; decide) rfl dX2_discardOldest_29 ?_
  refine zg_aast (ws' := [(q0, .inr (1, [.ref q1, .int c])), (q1, .inl (G.2.2.2.1, 6, .inr (.inr (.inr (.inr (zSt [(hb 5), (hb 10), (hb 15), (hb 20), (hb 25), (hb 25)])))))), ((hb 0), .inr (5, [.ref (hb 1), .ref (hb 3), .int ((sv 0).2.2.1), .int ((sv 0).2.2.2.1), .int ((sv 0).2.2.2.2.1), .int ((sv 0).2.2.2.2.2.1), .int ((sv 0).2.2.2.2.2.2)])), ((hb 5), .inr (5, [.ref (hb 6), .ref (hb 8), .int ((sv 1).2.2.1), .int ((sv 1).2.2.2.1), .int ((sv 1).2.2.2.2.1), .int ((sv 1).2.2.2.2.2.1), .int ((sv 1).2.2.2.2.2.2)])), ((hb 10), .inr (5, [.ref (hb 11), .ref (hb 13), .int ((sv 2).2.2.1), .int ((sv 2).2.2.2.1), .int ((sv 2).2.2.2.2.1), .int ((sv 2).2.2.2.2.2.1), .int ((sv 2).2.2.2.2.2.2)])), ((hb 15), .inr (5, [.ref (hb 16), .ref (hb 18), .int ((sv 3).2.2.1), .int ((sv 3).2.2.2.1), .int ((sv 3).2.2.2.2.1), .int ((sv 3).2.2.2.2.2.1), .int ((sv 3).2.2.2.2.2.2)])), ((hb 20), .inr (5, [.ref (hb 21), .ref (hb 23), .int ((sv 4).2.2.1), .int ((sv 4).2.2.2.1), .int ((sv 4).2.2.2.2.1), .int ((sv 4).2.2.2.2.2.1), .int ((sv 4).2.2.2.2.2.2)])), ((hb 25), .inr (5, [.ref (hb 26), .ref (hb 28), .int ((sv 5).2.2.1), .int ((sv 5).2.2.2.1), .int ((sv 5).2.2.2.2.1), .int ((sv 5).2.2.2.2.2.1), .int ((sv 5).2.2.2.2.2.2)]))]) X 1 7 rfl rfl (by unfold vp_in; decide) (by rw [show ((4 : Int32).toNatClampNeg) = 4 from rfl, zSt_up _ _ _ (Nat.le_of_ble_eq_true rfl)]; rfl) dX2_discardOldest_30 ?_
  refine zg_iinc (v := 6) (L' := [(2, .int 6), (1, .ref (hb 0)), (0, .ref q0)]) X dX2_discardOldest_31 (j := 0) rfl (by decide) (by decide) rfl ?_
  refine zg_goto (tgt := 8) X dX2_discardOldest_34 (by decide) ?_
  refine zg_iload_n X dX2_discardOldest_8 rfl 0 rfl ?_
  refine zg_aload_n X dX2_discardOldest_9 rfl 2 rfl ?_
  refine zg_get (C := RX2) (T := TX2) (N := 2) X 0 0 hiX2 rfl rfl (by decide) hw0 rfl dX2_discardOldest_10 ?_
  refine zg_alen (v := 6) X 1 1 rfl rfl (by decide) dX2_discardOldest_13 ?_
  refine zg_icmp_ge (tgt := 37) X dX2_discardOldest_14 (by decide) (fun cc0 => ?_) (fun cc0 => ?_)
  rotate_left
  · exact (cc0 (by decide)).elim
  refine zg_aload_n X dX2_discardOldest_37 rfl 2 rfl ?_
  refine zg_aload_n X dX2_discardOldest_38 rfl 2 rfl ?_
  refine zg_get (C := RX2) (T := TX2) (N := 2) X 0 0 hiX2 rfl rfl (by decide) hw0 rfl dX2_discardOldest_39 ?_
  refine zg_pc 42 rfl ?_
  refine zg_alen (v := 6) X 1 1 rfl rfl (by decide) dX2_discardOldest_42 ?_
  refine zg_iconst (v := 1) X dX2_discardOldest_43 (by decide) ?_
  refine zg_isub X dX2_discardOldest_44 ?_
  refine zg_topi (y := 5) (by decide) ?_
  refine zg_put (C := RX2) (T := TX2) (N := 2) (ty := .int) (ws' := [(q0, .inr (1, [.ref q1, .int 5])), (q1, .inl (G.2.2.2.1, 6, .inr (.inr (.inr (.inr (zSt [(hb 5), (hb 10), (hb 15), (hb 20), (hb 25), (hb 25)])))))), ((hb 0), .inr (5, [.ref (hb 1), .ref (hb 3), .int ((sv 0).2.2.1), .int ((sv 0).2.2.2.1), .int ((sv 0).2.2.2.2.1), .int ((sv 0).2.2.2.2.2.1), .int ((sv 0).2.2.2.2.2.2)])), ((hb 5), .inr (5, [.ref (hb 6), .ref (hb 8), .int ((sv 1).2.2.1), .int ((sv 1).2.2.2.1), .int ((sv 1).2.2.2.2.1), .int ((sv 1).2.2.2.2.2.1), .int ((sv 1).2.2.2.2.2.2)])), ((hb 10), .inr (5, [.ref (hb 11), .ref (hb 13), .int ((sv 2).2.2.1), .int ((sv 2).2.2.2.1), .int ((sv 2).2.2.2.2.1), .int ((sv 2).2.2.2.2.2.1), .int ((sv 2).2.2.2.2.2.2)])), ((hb 15), .inr (5, [.ref (hb 16), .ref (hb 18), .int ((sv 3).2.2.1), .int ((sv 3).2.2.2.1), .int ((sv 3).2.2.2.2.1), .int ((sv 3).2.2.2.2.2.1), .int ((sv 3).2.2.2.2.2.2)])), ((hb 20), .inr (5, [.ref (hb 21), .ref (hb 23), .int ((sv 4).2.2.1), .int ((sv 4).2.2.2.1), .int ((sv 4).2.2.2.2.1), .int ((sv 4).2.2.2.2.2.1), .int ((sv 4).2.2.2.2.2.2)])), ((hb 25), .inr (5, [.ref (hb 26), .ref (hb 28), .int ((sv 5).2.2.1), .int ((sv 5).2.2.2.1), .int ((sv 5).2.2.2.2.1), .int ((sv 5).2.2.2.2.2.1), .int ((sv 5).2.2.2.2.2.2)]))]) X 0 1 hiX2 tyX2 tyX2_ok nmX2 rfl rfl (by decide) hw1 rfl (by decide +kernel) rfl rfl (Nat.le_of_ble_eq_true rfl) rfl dX2_discardOldest_45 ?_
  refine zg_aload_n X dX2_discardOldest_48 rfl 2 rfl ?_
  refine zg_get (C := RX2) (T := TX2) (N := 2) X 0 1 hiX2 rfl rfl (by decide) hw1 rfl dX2_discardOldest_49 ?_
  refine zg_if_lt (tgt := 77) X dX2_discardOldest_52 (by decide) (fun cc0 => ?_) (fun cc0 => ?_)
  · exact absurd cc0 (by decide)
  refine zg_aload_n X dX2_discardOldest_55 rfl 2 rfl ?_
  refine zg_get (C := RX2) (T := TX2) (N := 2) X 0 1 hiX2 rfl rfl (by decide) hw1 rfl dX2_discardOldest_56 ?_
  refine zg_aload_n X dX2_discardOldest_59 rfl 2 rfl ?_
  refine zg_get (C := RX2) (T := TX2) (N := 2) X 0 0 hiX2 rfl rfl (by decide) hw0 rfl dX2_discardOldest_60 ?_
  refine zg_alen (v := 6) X 1 1 rfl rfl (by decide) dX2_discardOldest_63 ?_
  refine zg_icmp_ge (tgt := 77) X dX2_discardOldest_64 (by decide) (fun cc0 => ?_) (fun cc0 => ?_)
  · exact absurd cc0 (by decide)
  refine zg_aload_n X dX2_discardOldest_67 rfl 2 rfl ?_
  refine zg_get (C := RX2) (T := TX2) (N := 2) X 0 0 hiX2 rfl rfl (by decide) hw0 rfl dX2_discardOldest_68 ?_
  refine zg_aload_n X dX2_discardOldest_71 rfl 2 rfl ?_
  refine zg_get (C := RX2) (T := TX2) (N := 2) X 0 1 hiX2 rfl rfl (by decide) hw1 rfl dX2_discardOldest_72 ?_
  refine zg_aload_n X dX2_discardOldest_75 rfl 1 rfl ?_
  refine zg_aast (ws' := [(q0, .inr (1, [.ref q1, .int 5])), (q1, .inl (G.2.2.2.1, 6, .inr (.inr (.inr (.inr (zSt [(hb 5), (hb 10), (hb 15), (hb 20), (hb 25), (hb 0)])))))), ((hb 0), .inr (5, [.ref (hb 1), .ref (hb 3), .int ((sv 0).2.2.1), .int ((sv 0).2.2.2.1), .int ((sv 0).2.2.2.2.1), .int ((sv 0).2.2.2.2.2.1), .int ((sv 0).2.2.2.2.2.2)])), ((hb 5), .inr (5, [.ref (hb 6), .ref (hb 8), .int ((sv 1).2.2.1), .int ((sv 1).2.2.2.1), .int ((sv 1).2.2.2.2.1), .int ((sv 1).2.2.2.2.2.1), .int ((sv 1).2.2.2.2.2.2)])), ((hb 10), .inr (5, [.ref (hb 11), .ref (hb 13), .int ((sv 2).2.2.1), .int ((sv 2).2.2.2.1), .int ((sv 2).2.2.2.2.1), .int ((sv 2).2.2.2.2.2.1), .int ((sv 2).2.2.2.2.2.2)])), ((hb 15), .inr (5, [.ref (hb 16), .ref (hb 18), .int ((sv 3).2.2.1), .int ((sv 3).2.2.2.1), .int ((sv 3).2.2.2.2.1), .int ((sv 3).2.2.2.2.2.1), .int ((sv 3).2.2.2.2.2.2)])), ((hb 20), .inr (5, [.ref (hb 21), .ref (hb 23), .int ((sv 4).2.2.1), .int ((sv 4).2.2.2.1), .int ((sv 4).2.2.2.2.1), .int ((sv 4).2.2.2.2.2.1), .int ((sv 4).2.2.2.2.2.2)])), ((hb 25), .inr (5, [.ref (hb 26), .ref (hb 28), .int ((sv 5).2.2.1), .int ((sv 5).2.2.2.1), .int ((sv 5).2.2.2.2.1), .int ((sv 5).2.2.2.2.2.1), .int ((sv 5).2.2.2.2.2.2)]))]) X 1 2 rfl rfl (by unfold vp_in; decide) (by rw [show ((5 : Int32).toNatClampNeg) = 5 from rfl, zSt_up _ _ _ (Nat.le_of_ble_eq_true rfl)]; rfl) dX2_discardOldest_76 ?_
  exact zg_vret X hF () rfl rfl (Nat.le_of_ble_eq_true rfl) (Nat.le_of_ble_eq_true rfl) dX2_discardOldest_77
