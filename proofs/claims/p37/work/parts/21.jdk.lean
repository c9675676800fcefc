theorem pl_ck {α : Type} {i n : Int32} {K : Option α} {r : α} (hf : (if i < 0 ∨ ¬ i < n then none else K) = some r) : ¬ i < 0 ∧ i < n ∧ K = some r := by
  by_cases h : i < 0 ∨ ¬ i < n
  · rw [if_pos h] at hf; cases hf
  · rw [if_neg h] at hf
    exact ⟨fun z => h (Or.inl z), Classical.byContradiction fun z => h (Or.inr z), hf⟩
theorem zh_J3_checkIndex_8e157 : yJ3_checkIndex_8e157.cls = RJ3 ∧ yJ3_checkIndex_8e157.cls ≠ "java/lang/invoke/MethodHandle" ∧ yJ3_checkIndex_8e157.cls ≠ "java/lang/invoke/VarHandle" ∧ (parseMethodDescriptor yJ3_checkIndex_8e157.desc).map (fun d => d.parameters.length) = some 3 := by decide +kernel
theorem zh_J0_checkIndex_df160 : yJ0_checkIndex_df160.cls ≠ "java/lang/invoke/MethodHandle" ∧ yJ0_checkIndex_df160.cls ≠ "java/lang/invoke/VarHandle" ∧ (parseMethodDescriptor yJ0_checkIndex_df160.desc).map (fun d => d.parameters.length) = some 2 := by decide +kernel
theorem zc_J3_checkIndex_8e157 (G : zgG) (i n : Int32) (v : Value) (hv : v = .null ∨ ∃ a, v = .ref a) (h0 : ¬ i < 0) (h1 : i < n) : zgCt G yJ3_checkIndex_8e157 wsJ3_checkIndex_8e157 ({ frames := 0, cells := 0, slots := 0, locals := 0 } : Room) [.int i, .int n, v] [] (fun _ : Unit => some (.int i)) (fun _ => []) 0 0 := by
  rcases hv with rfl | ⟨a, rfl⟩
  · refine zg_of (own := RJ3) (cc := cJ3_checkIndex_8e157) (nL := 3) (ret := (some .int)) (by decide +kernel) rfl rfl (Nat.le_of_ble_eq_true rfl) (fun Z X hF => ?_)
    show zgGd G Z _ 0 0 3 _ 0 [(0, .int i), (1, .int n), (2, .null)] []
    refine zg_iload_n X dJ3_checkIndex_8e157_0 rfl 0 rfl ?_
    refine zg_if_lt (tgt := 9) X dJ3_checkIndex_8e157_1 (by decide) (fun c => absurd c h0) (fun _ => ?_)
    refine zg_iload_n X dJ3_checkIndex_8e157_4 rfl 0 rfl ?_
    refine zg_iload_n X dJ3_checkIndex_8e157_5 rfl 1 rfl ?_
    refine zg_icmp_lt (tgt := 16) X dJ3_checkIndex_8e157_6 (by decide) (fun _ => ?_) (fun c => absurd h1 c)
    refine zg_iload_n X dJ3_checkIndex_8e157_16 rfl 0 rfl ?_
    exact zg_iret X hF rfl rfl () rfl rfl (Nat.le_of_ble_eq_true rfl) (Nat.le_of_ble_eq_true rfl) dJ3_checkIndex_8e157_17
  · refine zg_of (own := RJ3) (cc := cJ3_checkIndex_8e157) (nL := 3) (ret := (some .int)) (by decide +kernel) rfl rfl (Nat.le_of_ble_eq_true rfl) (fun Z X hF => ?_)
    show zgGd G Z _ 0 0 3 _ 0 [(0, .int i), (1, .int n), (2, .ref a)] []
    refine zg_iload_n X dJ3_checkIndex_8e157_0 rfl 0 rfl ?_
    refine zg_if_lt (tgt := 9) X dJ3_checkIndex_8e157_1 (by decide) (fun c => absurd c h0) (fun _ => ?_)
    refine zg_iload_n X dJ3_checkIndex_8e157_4 rfl 0 rfl ?_
    refine zg_iload_n X dJ3_checkIndex_8e157_5 rfl 1 rfl ?_
    refine zg_icmp_lt (tgt := 16) X dJ3_checkIndex_8e157_6 (by decide) (fun _ => ?_) (fun c => absurd h1 c)
    refine zg_iload_n X dJ3_checkIndex_8e157_16 rfl 0 rfl ?_
    exact zg_iret X hF rfl rfl () rfl rfl (Nat.le_of_ble_eq_true rfl) (Nat.le_of_ble_eq_true rfl) dJ3_checkIndex_8e157_17
theorem zc_J0_checkIndex_df160 (G : zgG) (i n : Int32) (h0 : ¬ i < 0) (h1 : i < n) : zgCt G yJ0_checkIndex_df160 wsJ0_checkIndex_df160 ({ frames := 1, cells := 0, slots := 0, locals := 22 } : Room) [.int i, .int n] [] (fun _ : Unit => none) (fun _ => []) 0 0 := by
  have hw0 : Cond.fieldLink RJ0 1053 "jdk/internal/util/Preconditions" "SIOOBE_FORMATTER" "Ljava/util/function/BiFunction;" ∈ wsJ0_checkIndex_df160 := by decide +kernel
  refine zg_of (own := RJ0) (cc := cJ0_checkIndex_df160) (nL := 2) (ret := none) (by decide +kernel) rfl rfl (Nat.le_of_ble_eq_true rfl) (fun Z X hF => ?_)
  show zgGd G Z _ 0 0 2 _ 0 [(0, .int i), (1, .int n)] []
  refine zg_iload_n X dJ0_checkIndex_df160_0 rfl 0 rfl ?_
  refine zg_iload_n X dJ0_checkIndex_df160_1 rfl 1 rfl ?_
  refine zg_kfm X hw0 dJ0_checkIndex_df160_2 (fun v hv => ?_)
  refine zg_cP1 X (zg_runS X (zc_J3_checkIndex_8e157 G i n v hv h0 h1) gJ0_checkIndex_df160_J3_checkIndex_8e157 rfl zh_J3_checkIndex_8e157.2 ⟨rfl, rfl⟩ ⟨Nat.le_of_ble_eq_true rfl, Nat.le_of_ble_eq_true rfl⟩ rfl (Nat.le_of_ble_eq_true rfl) ⟨Nat.le_of_ble_eq_true rfl, Nat.le_of_ble_eq_true rfl⟩ [] (by decide) rfl rfl dJ0_checkIndex_df160_5) rfl ?_
  refine zg_pop X dJ0_checkIndex_df160_8 rfl ?_
  exact zg_vret X hF () rfl rfl (Nat.le_of_ble_eq_true rfl) (Nat.le_of_ble_eq_true rfl) dJ0_checkIndex_df160_9
theorem zh_J0_coder_7d493 : yJ0_coder_7d493.cls = RJ0 ∧ yJ0_coder_7d493.cls ≠ "java/lang/invoke/MethodHandle" ∧ yJ0_coder_7d493.cls ≠ "java/lang/invoke/VarHandle" ∧ (parseMethodDescriptor yJ0_coder_7d493.desc).map (fun d => d.parameters.length) = some 0 := by decide +kernel
set_option maxHeartbeats 8000000 in
set_option maxRecDepth 100000 in
theorem zc_J0_coder_7d493 (G : zgG) (fu : Nat) (res : Int32) (hf : zf_J0_coder_7d493 fu = some res) : zgCt G yJ0_coder_7d493 wsJ0_coder_7d493 ({ frames := 0, cells := 0, slots := 0, locals := 0 } : Room) [.ref G.2.2.2.2.2.1] [] (fun _ : Unit => some (.int res)) (fun _ => []) 0 0 := by
  have hw0 : Cond.fieldLink RJ0 38 "java/lang/String" "COMPACT_STRINGS" "Z" ∈ wsJ0_coder_7d493 := by decide +kernel
  have hw1 : Cond.fieldLink RJ0 15 "java/lang/String" "coder" "B" ∈ wsJ0_coder_7d493 := by decide +kernel
  refine zg_of (own := RJ0) (cc := cJ0_coder_7d493) (nL := 1) (ret := (some .byte)) (by decide +kernel) rfl rfl (Nat.le_of_ble_eq_true rfl) (fun Z X hF => ?_)
  show zgGd G Z _ 0 0 1 _ 0 [(0, .ref G.2.2.2.2.2.1)] []
  unfold zf_J0_coder_7d493 at hf
  refine zg_kcs X hw0 dJ0_coder_7d493_0 ?_
  refine zg_if_eq (tgt := 13) X dJ0_coder_7d493_3 (by decide) (fun c1 => ?_) (fun c1 => ?_)
  · exact absurd c1 (by decide)
  · skip
    refine zg_aload_n X dJ0_coder_7d493_6 rfl 0 rfl ?_
    refine zg_kcod X hw1 dJ0_coder_7d493_7 ?_
    refine zg_goto (tgt := 14) X dJ0_coder_7d493_10 (by decide) ?_
    have hf := Option.some.inj hf
    subst hf
    exact zg_iret X hF rfl rfl () rfl rfl (Nat.le_of_ble_eq_true rfl) (Nat.le_of_ble_eq_true rfl) dJ0_coder_7d493_14
theorem zh_J0_length_8abf5 : yJ0_length_8abf5.cls = RJ0 ∧ yJ0_length_8abf5.cls ≠ "java/lang/invoke/MethodHandle" ∧ yJ0_length_8abf5.cls ≠ "java/lang/invoke/VarHandle" ∧ (parseMethodDescriptor yJ0_length_8abf5.desc).map (fun d => d.parameters.length) = some 0 := by decide +kernel
set_option maxHeartbeats 8000000 in
set_option maxRecDepth 100000 in
theorem zc_J0_length_8abf5 (G : zgG) (fu : Nat) (res : Int32) (hf : zf_J0_length_8abf5 fu = some res) : zgCt G yJ0_length_8abf5 wsJ0_length_8abf5 ({ frames := 1, cells := 0, slots := 0, locals := 20 } : Room) [.ref G.2.2.2.2.2.1] [] (fun _ : Unit => some (.int res)) (fun _ => []) 0 0 := by
  have hw0 : Cond.fieldLink RJ0 9 "java/lang/String" "value" "[B" ∈ wsJ0_length_8abf5 := by decide +kernel
  refine zg_of (own := RJ0) (cc := cJ0_length_8abf5) (nL := 1) (ret := (some .int)) (by decide +kernel) rfl rfl (Nat.le_of_ble_eq_true rfl) (fun Z X hF => ?_)
  show zgGd G Z _ 0 0 1 _ 0 [(0, .ref G.2.2.2.2.2.1)] []
  unfold zf_J0_length_8abf5 at hf
  refine zg_aload_n X dJ0_length_8abf5_0 rfl 0 rfl ?_
  refine zg_kval X hw0 dJ0_length_8abf5_1 ?_
  refine zg_klen X dJ0_length_8abf5_4 ?_
  refine zg_aload_n X dJ0_length_8abf5_5 rfl 0 rfl ?_
  obtain ⟨b1, hb1, hf⟩ := pl_b hf
  refine zg_cP1 X (zg_runVK X (zc_J0_coder_7d493 G  fu b1 hb1) gJ0_length_8abf5_J0_coder_7d493 rfl zh_J0_coder_7d493 ⟨rfl, rfl⟩ ⟨Nat.le_of_ble_eq_true rfl, Nat.le_of_ble_eq_true rfl⟩ rfl (Nat.le_of_ble_eq_true rfl) ⟨Nat.le_of_ble_eq_true rfl, Nat.le_of_ble_eq_true rfl⟩ [] (by decide) rfl rfl dJ0_length_8abf5_6) rfl ?_
  refine zg_ishr X dJ0_length_8abf5_9 ?_
  obtain ⟨x2, ex2, hf⟩ := pl_l hf
  refine zg_topi ex2 ?_
  have hf := Option.some.inj hf
  subst hf
  exact zg_iret X hF rfl rfl () rfl rfl (Nat.le_of_ble_eq_true rfl) (Nat.le_of_ble_eq_true rfl) dJ0_length_8abf5_10
theorem zh_J0_isLatin1_aae02 : yJ0_isLatin1_aae02.cls = RJ0 ∧ yJ0_isLatin1_aae02.cls ≠ "java/lang/invoke/MethodHandle" ∧ yJ0_isLatin1_aae02.cls ≠ "java/lang/invoke/VarHandle" ∧ (parseMethodDescriptor yJ0_isLatin1_aae02.desc).map (fun d => d.parameters.length) = some 0 := by decide +kernel
set_option maxHeartbeats 8000000 in
set_option maxRecDepth 100000 in
theorem zc_J0_isLatin1_aae02 (G : zgG) (fu : Nat) (res : Int32) (hf : zf_J0_isLatin1_aae02 fu = some res) : zgCt G yJ0_isLatin1_aae02 wsJ0_isLatin1_aae02 ({ frames := 0, cells := 0, slots := 0, locals := 0 } : Room) [.ref G.2.2.2.2.2.1] [] (fun _ : Unit => some (.int res)) (fun _ => []) 0 0 := by
  have hw0 : Cond.fieldLink RJ0 38 "java/lang/String" "COMPACT_STRINGS" "Z" ∈ wsJ0_isLatin1_aae02 := by decide +kernel
  have hw1 : Cond.fieldLink RJ0 15 "java/lang/String" "coder" "B" ∈ wsJ0_isLatin1_aae02 := by decide +kernel
  refine zg_of (own := RJ0) (cc := cJ0_isLatin1_aae02) (nL := 1) (ret := (some .boolean)) (by decide +kernel) rfl rfl (Nat.le_of_ble_eq_true rfl) (fun Z X hF => ?_)
  show zgGd G Z _ 0 0 1 _ 0 [(0, .ref G.2.2.2.2.2.1)] []
  unfold zf_J0_isLatin1_aae02 at hf
  refine zg_kcs X hw0 dJ0_isLatin1_aae02_0 ?_
  refine zg_if_eq (tgt := 17) X dJ0_isLatin1_aae02_3 (by decide) (fun c1 => ?_) (fun c1 => ?_)
  · exact absurd c1 (by decide)
  · skip
    refine zg_aload_n X dJ0_isLatin1_aae02_6 rfl 0 rfl ?_
    refine zg_kcod X hw1 dJ0_isLatin1_aae02_7 ?_
    refine zg_if_ne (tgt := 17) X dJ0_isLatin1_aae02_10 (by decide) (fun c2 => ?_) (fun c2 => ?_)
    · exact absurd c2 (by decide)
    · skip
      refine zg_iconst (v := 1) X dJ0_isLatin1_aae02_13 (by decide) ?_
      refine zg_goto (tgt := 18) X dJ0_isLatin1_aae02_14 (by decide) ?_
      have hf := Option.some.inj hf
      subst hf
      exact zg_iret X hF rfl rfl () rfl rfl (Nat.le_of_ble_eq_true rfl) (Nat.le_of_ble_eq_true rfl) dJ0_isLatin1_aae02_18
theorem zh_J1_canEncode_9a6ad : yJ1_canEncode_9a6ad.cls = RJ1 ∧ yJ1_canEncode_9a6ad.cls ≠ "java/lang/invoke/MethodHandle" ∧ yJ1_canEncode_9a6ad.cls ≠ "java/lang/invoke/VarHandle" ∧ (parseMethodDescriptor yJ1_canEncode_9a6ad.desc).map (fun d => d.parameters.length) = some 1 := by decide +kernel
set_option maxHeartbeats 8000000 in
set_option maxRecDepth 100000 in
theorem zc_J1_canEncode_9a6ad (G : zgG) (a0 : Int32) (fu : Nat) (res : Int32) (hf : zf_J1_canEncode_9a6ad fu a0 = some res) : zgCt G yJ1_canEncode_9a6ad wsJ1_canEncode_9a6ad ({ frames := 0, cells := 0, slots := 0, locals := 0 } : Room) [.int a0] [] (fun _ : Unit => some (.int res)) (fun _ => []) 0 0 := by
  refine zg_of (own := RJ1) (cc := cJ1_canEncode_9a6ad) (nL := 1) (ret := (some .boolean)) (by decide +kernel) rfl rfl (Nat.le_of_ble_eq_true rfl) (fun Z X hF => ?_)
  show zgGd G Z _ 0 0 1 _ 0 [(0, .int a0)] []
  unfold zf_J1_canEncode_9a6ad at hf
  refine zg_iload_n X dJ1_canEncode_9a6ad_0 rfl 0 rfl ?_
  refine zg_if_lt (tgt := 15) X dJ1_canEncode_9a6ad_1 (by decide) (fun c1 => ?_) (fun c1 => ?_)
  · have hf := pl_t c1 hf
    refine zg_iconst (v := 0) X dJ1_canEncode_9a6ad_15 (by decide) ?_
    have hf := Option.some.inj hf
    subst hf
    exact zg_iret X hF rfl rfl () rfl rfl (Nat.le_of_ble_eq_true rfl) (Nat.le_of_ble_eq_true rfl) dJ1_canEncode_9a6ad_16
  · have hf := pl_f c1 hf
    refine zg_iload_n X dJ1_canEncode_9a6ad_4 rfl 0 rfl ?_
    refine zg_sipush (v := 255) X dJ1_canEncode_9a6ad_5 (by decide) ?_
    refine zg_icmp_gt (tgt := 15) X dJ1_canEncode_9a6ad_8 (by decide) (fun c2 => ?_) (fun c2 => ?_)
    · have hf := pl_t c2 hf
      refine zg_iconst (v := 0) X dJ1_canEncode_9a6ad_15 (by decide) ?_
      have hf := Option.some.inj hf
      subst hf
      exact zg_iret X hF rfl rfl () rfl rfl (Nat.le_of_ble_eq_true rfl) (Nat.le_of_ble_eq_true rfl) dJ1_canEncode_9a6ad_16
    · have hf := pl_f c2 hf
      refine zg_iconst (v := 1) X dJ1_canEncode_9a6ad_11 (by decide) ?_
      refine zg_goto (tgt := 16) X dJ1_canEncode_9a6ad_12 (by decide) ?_
      have hf := Option.some.inj hf
      subst hf
      exact zg_iret X hF rfl rfl () rfl rfl (Nat.le_of_ble_eq_true rfl) (Nat.le_of_ble_eq_true rfl) dJ1_canEncode_9a6ad_16
theorem zh_J1_indexOfChar_4cfef : yJ1_indexOfChar_4cfef.cls = RJ1 ∧ yJ1_indexOfChar_4cfef.cls ≠ "java/lang/invoke/MethodHandle" ∧ yJ1_indexOfChar_4cfef.cls ≠ "java/lang/invoke/VarHandle" ∧ (parseMethodDescriptor yJ1_indexOfChar_4cfef.desc).map (fun d => d.parameters.length) = some 4 := by decide +kernel
set_option maxHeartbeats 8000000 in
set_option maxRecDepth 100000 in
theorem zc_J1_indexOfChar_4cfef (G : zgG) (a1 : Int32) (a2 : Int32) (a3 : Int32) (fu : Nat) (res : Int32) (hf : zf_J1_indexOfChar_4cfef fu a1 a2 a3 = some res) : zgCt G yJ1_indexOfChar_4cfef wsJ1_indexOfChar_4cfef ({ frames := 0, cells := 0, slots := 0, locals := 0 } : Room) [.ref G.2.2.2.2.2.2, .int a1, .int a2, .int a3] [] (fun _ : Unit => some (.int res)) (fun _ => []) 0 0 := by
  refine zg_of (own := RJ1) (cc := cJ1_indexOfChar_4cfef) (nL := 6) (ret := (some .int)) (by decide +kernel) rfl rfl (Nat.le_of_ble_eq_true rfl) (fun Z X hF => ?_)
  show zgGd G Z _ 0 0 6 _ 0 [(0, .ref G.2.2.2.2.2.2), (1, .int a1), (2, .int a2), (3, .int a3)] []
  have hL7 : ∀ (n : Nat) (y3 : Int32) (y4 : Int32) (y5 : Int32), zf_J1_indexOfChar_4cfef_L7 fu n y3 y4 y5 = some res → zgGd G Z ({ frames := 0, cells := 0, slots := 0, locals := 0 } : Room) 0 0 6 [] 7 [(0, .ref G.2.2.2.2.2.2), (3, .int y3), (4, .int y4), (5, .int y5)] [] := by
    intro n
    induction n with
    | zero =>
      intro y3 y4 y5 hf
      rw [zf_J1_indexOfChar_4cfef_L7] at hf
      cases hf
    | succ n7 ih7 =>
      intro y3 y4 y5 hf
      rw [zf_J1_indexOfChar_4cfef_L7] at hf
      refine zg_iload X dJ1_indexOfChar_4cfef_7 3 rfl ?_
      refine zg_iload_n X dJ1_indexOfChar_4cfef_9 rfl 1 rfl ?_
      refine zg_icmp_ge (tgt := 31) X dJ1_indexOfChar_4cfef_10 (by decide) (fun c1 => ?_) (fun c1 => ?_)
      · have hf := pl_t c1 hf
        refine zg_iconst (v := (-1)) X dJ1_indexOfChar_4cfef_31 (by decide) ?_
        have hf := Option.some.inj hf
        subst hf
        exact zg_iret X hF rfl rfl () rfl rfl (Nat.le_of_ble_eq_true rfl) (Nat.le_of_ble_eq_true rfl) dJ1_indexOfChar_4cfef_32
      · have hf := pl_f c1 hf
        refine zg_aload_n X dJ1_indexOfChar_4cfef_13 rfl 0 rfl ?_
        refine zg_iload X dJ1_indexOfChar_4cfef_14 3 rfl ?_
        obtain ⟨hin, hf⟩ := pl_in hf
        obtain ⟨x2, ex2, hf⟩ := pl_l hf
        refine zg_kbald X hin dJ1_indexOfChar_4cfef_16 ?_
        refine zg_topi ex2 ?_
        refine zg_iload X dJ1_indexOfChar_4cfef_17 2 rfl ?_
        refine zg_icmp_ne (tgt := 25) X dJ1_indexOfChar_4cfef_19 (by decide) (fun c3 => ?_) (fun c3 => ?_)
        · have hf := pl_f c3 hf
          obtain ⟨x4, ex4, hf⟩ := pl_l hf
          refine zg_iinc (v := x4) (L' := [(5, .int x4), (0, .ref G.2.2.2.2.2.2), (3, .int y3), (4, .int y4)]) X dJ1_indexOfChar_4cfef_25 (j := 3) rfl (by rw [ex4]; rfl) (by decide) rfl ?_
          refine zg_goto (tgt := 7) X dJ1_indexOfChar_4cfef_28 (by decide) ?_
          refine zg_loc [1, 2, 3, 0] rfl ?_
          exact ih7 y3 y4 x4 hf
        · have hf := pl_t c3 hf
          refine zg_iload X dJ1_indexOfChar_4cfef_22 3 rfl ?_
          have hf := Option.some.inj hf
          subst hf
          exact zg_iret X hF rfl rfl () rfl rfl (Nat.le_of_ble_eq_true rfl) (Nat.le_of_ble_eq_true rfl) dJ1_indexOfChar_4cfef_24
  unfold zf_J1_indexOfChar_4cfef at hf
  refine zg_iload_n X dJ1_indexOfChar_4cfef_0 rfl 1 rfl ?_
  refine zg_i2b X dJ1_indexOfChar_4cfef_1 ?_
  refine zg_istore (L' := [(4, .int a1.toInt8.toInt32), (0, .ref G.2.2.2.2.2.2), (1, .int a1), (2, .int a2), (3, .int a3)]) X dJ1_indexOfChar_4cfef_2 (by decide) rfl ?_
  refine zg_iload_n X dJ1_indexOfChar_4cfef_4 rfl 3 rfl ?_
  refine zg_istore (L' := [(5, .int a2), (4, .int a1.toInt8.toInt32), (0, .ref G.2.2.2.2.2.2), (1, .int a1), (2, .int a2), (3, .int a3)]) X dJ1_indexOfChar_4cfef_5 (by decide) rfl ?_
  refine zg_loc [2, 5, 1, 0] rfl ?_
  exact hL7 fu a3 a1.toInt8.toInt32 a2 hf
theorem zh_J1_indexOf_4cfef : yJ1_indexOf_4cfef.cls = RJ1 ∧ yJ1_indexOf_4cfef.cls ≠ "java/lang/invoke/MethodHandle" ∧ yJ1_indexOf_4cfef.cls ≠ "java/lang/invoke/VarHandle" ∧ (parseMethodDescriptor yJ1_indexOf_4cfef.desc).map (fun d => d.parameters.length) = some 4 := by decide +kernel
set_option maxHeartbeats 8000000 in
set_option maxRecDepth 100000 in
theorem zc_J1_indexOf_4cfef (G : zgG) (a1 : Int32) (a2 : Int32) (a3 : Int32) (fu : Nat) (res : Int32) (hf : zf_J1_indexOf_4cfef fu a1 a2 a3 = some res) : zgCt G yJ1_indexOf_4cfef wsJ1_indexOf_4cfef ({ frames := 1, cells := 0, slots := 0, locals := 25 } : Room) [.ref G.2.2.2.2.2.2, .int a1, .int a2, .int a3] [] (fun _ : Unit => some (.int res)) (fun _ => []) 0 0 := by
  have hw0 : Cond.methodLink RJ1 92 Lib.Math.max.name ∈ wsJ1_indexOf_4cfef := by decide +kernel
  have hw1 : Cond.static Lib.Math.max.name ∈ wsJ1_indexOf_4cfef := by decide +kernel
  have hw2 : Cond.initialized "java/lang/Math" ∈ wsJ1_indexOf_4cfef := by decide +kernel
  have hw3 : Cond.code Lib.Math.max.name Lib.Math.max.code 2 (some .int) ∈ wsJ1_indexOf_4cfef := by decide +kernel
  have hw4 : Cond.methodLink RJ1 38 Lib.Math.min.name ∈ wsJ1_indexOf_4cfef := by decide +kernel
  have hw5 : Cond.static Lib.Math.min.name ∈ wsJ1_indexOf_4cfef := by decide +kernel
  have hw6 : Cond.code Lib.Math.min.name Lib.Math.min.code 2 (some .int) ∈ wsJ1_indexOf_4cfef := by decide +kernel
  refine zg_of (own := RJ1) (cc := cJ1_indexOf_4cfef) (nL := 4) (ret := (some .int)) (by decide +kernel) rfl rfl (Nat.le_of_ble_eq_true rfl) (fun Z X hF => ?_)
  show zgGd G Z _ 0 0 4 _ 0 [(0, .ref G.2.2.2.2.2.2), (1, .int a1), (2, .int a2), (3, .int a3)] []
  unfold zf_J1_indexOf_4cfef at hf
  refine zg_iload_n X dJ1_indexOf_4cfef_0 rfl 1 rfl ?_
  obtain ⟨b1, hb1, hf⟩ := pl_b hf
  refine zg_cP1 X (zg_runS X (zc_J1_canEncode_9a6ad G a1 fu b1 hb1) gJ1_indexOf_4cfef_J1_canEncode_9a6ad rfl zh_J1_canEncode_9a6ad.2 ⟨rfl, rfl⟩ ⟨Nat.le_of_ble_eq_true rfl, Nat.le_of_ble_eq_true rfl⟩ rfl (Nat.le_of_ble_eq_true rfl) ⟨Nat.le_of_ble_eq_true rfl, Nat.le_of_ble_eq_true rfl⟩ [] (by decide) rfl rfl dJ1_indexOf_4cfef_1) rfl ?_
  refine zg_if_ne (tgt := 9) X dJ1_indexOf_4cfef_4 (by decide) (fun c2 => ?_) (fun c2 => ?_)
  · have hf := pl_f c2 hf
    refine zg_iload_n X dJ1_indexOf_4cfef_9 rfl 2 rfl ?_
    refine zg_iconst (v := 0) X dJ1_indexOf_4cfef_10 (by decide) ?_
    refine zg_mmax X hw0 hw1 hw2 hw3 (Nat.le_of_ble_eq_true rfl) (Nat.le_of_ble_eq_true rfl) (Nat.le_of_ble_eq_true rfl) (Nat.le_of_ble_eq_true rfl) dJ1_indexOf_4cfef_11 ?_
    obtain ⟨x3, ex3, hf⟩ := pl_l hf
    refine zg_topi ex3 ?_
    refine zg_istore_n (L' := [(2, .int x3), (0, .ref G.2.2.2.2.2.2), (1, .int a1), (3, .int a3)]) X dJ1_indexOf_4cfef_14 rfl (by decide) rfl ?_
    refine zg_iload_n X dJ1_indexOf_4cfef_15 rfl 3 rfl ?_
    refine zg_aload_n X dJ1_indexOf_4cfef_16 rfl 1 rfl ?_
    refine zg_klen X dJ1_indexOf_4cfef_17 ?_
    refine zg_mmin X hw4 hw5 hw2 hw6 (Nat.le_of_ble_eq_true rfl) (Nat.le_of_ble_eq_true rfl) (Nat.le_of_ble_eq_true rfl) (Nat.le_of_ble_eq_true rfl) dJ1_indexOf_4cfef_18 ?_
    obtain ⟨x4, ex4, hf⟩ := pl_l hf
    refine zg_topi ex4 ?_
    refine zg_istore_n (L' := [(3, .int x4), (2, .int x3), (0, .ref G.2.2.2.2.2.2), (1, .int a1)]) X dJ1_indexOf_4cfef_21 rfl (by decide) rfl ?_
    refine zg_iload_n X dJ1_indexOf_4cfef_22 rfl 1 rfl ?_
    refine zg_iload_n X dJ1_indexOf_4cfef_23 rfl 0 rfl ?_
    refine zg_icmp_lt (tgt := 29) X dJ1_indexOf_4cfef_24 (by decide) (fun c5 => ?_) (fun c5 => ?_)
    · have hf := pl_t c5 hf
      refine zg_aload_n X dJ1_indexOf_4cfef_29 rfl 2 rfl ?_
      refine zg_iload_n X dJ1_indexOf_4cfef_30 rfl 3 rfl ?_
      refine zg_iload_n X dJ1_indexOf_4cfef_31 rfl 1 rfl ?_
      refine zg_iload_n X dJ1_indexOf_4cfef_32 rfl 0 rfl ?_
      obtain ⟨b6, hb6, hf⟩ := pl_b hf
      refine zg_cP1 X (zg_runS X (zc_J1_indexOfChar_4cfef G a1 x3 x4 fu b6 hb6) gJ1_indexOf_4cfef_J1_indexOfChar_4cfef rfl zh_J1_indexOfChar_4cfef.2 ⟨rfl, rfl⟩ ⟨Nat.le_of_ble_eq_true rfl, Nat.le_of_ble_eq_true rfl⟩ rfl (Nat.le_of_ble_eq_true rfl) ⟨Nat.le_of_ble_eq_true rfl, Nat.le_of_ble_eq_true rfl⟩ [] (by decide) rfl rfl dJ1_indexOf_4cfef_33) rfl ?_
      have hf := Option.some.inj hf
      subst hf
      exact zg_iret X hF rfl rfl () rfl rfl (Nat.le_of_ble_eq_true rfl) (Nat.le_of_ble_eq_true rfl) dJ1_indexOf_4cfef_36
    · have hf := pl_f c5 hf
      refine zg_iconst (v := (-1)) X dJ1_indexOf_4cfef_27 (by decide) ?_
      have hf := Option.some.inj hf
      subst hf
      exact zg_iret X hF rfl rfl () rfl rfl (Nat.le_of_ble_eq_true rfl) (Nat.le_of_ble_eq_true rfl) dJ1_indexOf_4cfef_28
  · have hf := pl_t c2 hf
    refine zg_iconst (v := (-1)) X dJ1_indexOf_4cfef_7 (by decide) ?_
    have hf := Option.some.inj hf
    subst hf
    exact zg_iret X hF rfl rfl () rfl rfl (Nat.le_of_ble_eq_true rfl) (Nat.le_of_ble_eq_true rfl) dJ1_indexOf_4cfef_8
theorem zh_J0_indexOf_7cf53 : yJ0_indexOf_7cf53.cls = RJ0 ∧ yJ0_indexOf_7cf53.cls ≠ "java/lang/invoke/MethodHandle" ∧ yJ0_indexOf_7cf53.cls ≠ "java/lang/invoke/VarHandle" ∧ (parseMethodDescriptor yJ0_indexOf_7cf53.desc).map (fun d => d.parameters.length) = some 2 := by decide +kernel
set_option maxHeartbeats 8000000 in
set_option maxRecDepth 100000 in
theorem zc_J0_indexOf_7cf53 (G : zgG) (a1 : Int32) (a2 : Int32) (fu : Nat) (res : Int32) (hf : zf_J0_indexOf_7cf53 fu a1 a2 = some res) : zgCt G yJ0_indexOf_7cf53 wsJ0_indexOf_7cf53 ({ frames := 2, cells := 0, slots := 0, locals := 48 } : Room) [.ref G.2.2.2.2.2.1, .int a1, .int a2] [] (fun _ : Unit => some (.int res)) (fun _ => []) 0 0 := by
  have hw0 : Cond.fieldLink RJ0 9 "java/lang/String" "value" "[B" ∈ wsJ0_indexOf_7cf53 := by decide +kernel
  refine zg_of (own := RJ0) (cc := cJ0_indexOf_7cf53) (nL := 3) (ret := (some .int)) (by decide +kernel) rfl rfl (Nat.le_of_ble_eq_true rfl) (fun Z X hF => ?_)
  show zgGd G Z _ 0 0 3 _ 0 [(0, .ref G.2.2.2.2.2.1), (1, .int a1), (2, .int a2)] []
  unfold zf_J0_indexOf_7cf53 at hf
  refine zg_aload_n X dJ0_indexOf_7cf53_0 rfl 0 rfl ?_
  obtain ⟨b1, hb1, hf⟩ := pl_b hf
  refine zg_cP1 X (zg_runVK X (zc_J0_isLatin1_aae02 G  fu b1 hb1) gJ0_indexOf_7cf53_J0_isLatin1_aae02 rfl zh_J0_isLatin1_aae02 ⟨rfl, rfl⟩ ⟨Nat.le_of_ble_eq_true rfl, Nat.le_of_ble_eq_true rfl⟩ rfl (Nat.le_of_ble_eq_true rfl) ⟨Nat.le_of_ble_eq_true rfl, Nat.le_of_ble_eq_true rfl⟩ [] (by decide) rfl rfl dJ0_indexOf_7cf53_1) rfl ?_
  refine zg_if_eq (tgt := 23) X dJ0_indexOf_7cf53_4 (by decide) (fun c2 => ?_) (fun c2 => ?_)
  · have hf := pl_t c2 hf
    refine zg_aload_n X dJ0_indexOf_7cf53_23 rfl 0 rfl ?_
    refine zg_kval X hw0 dJ0_indexOf_7cf53_24 ?_
    refine zg_iload_n X dJ0_indexOf_7cf53_27 rfl 1 rfl ?_
    refine zg_iload_n X dJ0_indexOf_7cf53_28 rfl 2 rfl ?_
    refine zg_aload_n X dJ0_indexOf_7cf53_29 rfl 0 rfl ?_
    obtain ⟨b3, hb3, hf⟩ := pl_b hf
    refine zg_cP1 X (zg_runVK X (zc_J0_length_8abf5 G  fu b3 hb3) gJ0_indexOf_7cf53_J0_length_8abf5 rfl zh_J0_length_8abf5 ⟨rfl, rfl⟩ ⟨Nat.le_of_ble_eq_true rfl, Nat.le_of_ble_eq_true rfl⟩ rfl (Nat.le_of_ble_eq_true rfl) ⟨Nat.le_of_ble_eq_true rfl, Nat.le_of_ble_eq_true rfl⟩ [] (by decide) rfl rfl dJ0_indexOf_7cf53_30) rfl ?_
    cases hf
  · have hf := pl_f c2 hf
    refine zg_aload_n X dJ0_indexOf_7cf53_7 rfl 0 rfl ?_
    refine zg_kval X hw0 dJ0_indexOf_7cf53_8 ?_
    refine zg_iload_n X dJ0_indexOf_7cf53_11 rfl 1 rfl ?_
    refine zg_iload_n X dJ0_indexOf_7cf53_12 rfl 2 rfl ?_
    refine zg_aload_n X dJ0_indexOf_7cf53_13 rfl 0 rfl ?_
    obtain ⟨b4, hb4, hf⟩ := pl_b hf
    refine zg_cP1 X (zg_runVK X (zc_J0_length_8abf5 G  fu b4 hb4) gJ0_indexOf_7cf53_J0_length_8abf5 rfl zh_J0_length_8abf5 ⟨rfl, rfl⟩ ⟨Nat.le_of_ble_eq_true rfl, Nat.le_of_ble_eq_true rfl⟩ rfl (Nat.le_of_ble_eq_true rfl) ⟨Nat.le_of_ble_eq_true rfl, Nat.le_of_ble_eq_true rfl⟩ [] (by decide) rfl rfl dJ0_indexOf_7cf53_14) rfl ?_
    obtain ⟨b5, hb5, hf⟩ := pl_b hf
    refine zg_cP1 X (zg_runS X (zc_J1_indexOf_4cfef G a1 a2 b4 fu b5 hb5) gJ0_indexOf_7cf53_J1_indexOf_4cfef rfl zh_J1_indexOf_4cfef.2 ⟨rfl, rfl⟩ ⟨Nat.le_of_ble_eq_true rfl, Nat.le_of_ble_eq_true rfl⟩ rfl (Nat.le_of_ble_eq_true rfl) ⟨Nat.le_of_ble_eq_true rfl, Nat.le_of_ble_eq_true rfl⟩ [] (by decide) rfl rfl dJ0_indexOf_7cf53_17) rfl ?_
    refine zg_goto (tgt := 36) X dJ0_indexOf_7cf53_20 (by decide) ?_
    have hf := Option.some.inj hf
    subst hf
    exact zg_iret X hF rfl rfl () rfl rfl (Nat.le_of_ble_eq_true rfl) (Nat.le_of_ble_eq_true rfl) dJ0_indexOf_7cf53_36
theorem zh_J0_indexOf_0f7a4 : yJ0_indexOf_0f7a4.cls = RJ0 ∧ yJ0_indexOf_0f7a4.cls ≠ "java/lang/invoke/MethodHandle" ∧ yJ0_indexOf_0f7a4.cls ≠ "java/lang/invoke/VarHandle" ∧ (parseMethodDescriptor yJ0_indexOf_0f7a4.desc).map (fun d => d.parameters.length) = some 1 := by decide +kernel
set_option maxHeartbeats 8000000 in
set_option maxRecDepth 100000 in
theorem zc_J0_indexOf_0f7a4 (G : zgG) (a1 : Int32) (fu : Nat) (res : Int32) (hf : zf_J0_indexOf_0f7a4 fu a1 = some res) : zgCt G yJ0_indexOf_0f7a4 wsJ0_indexOf_0f7a4 ({ frames := 3, cells := 0, slots := 0, locals := 70 } : Room) [.ref G.2.2.2.2.2.1, .int a1] [] (fun _ : Unit => some (.int res)) (fun _ => []) 0 0 := by
  refine zg_of (own := RJ0) (cc := cJ0_indexOf_0f7a4) (nL := 2) (ret := (some .int)) (by decide +kernel) rfl rfl (Nat.le_of_ble_eq_true rfl) (fun Z X hF => ?_)
  show zgGd G Z _ 0 0 2 _ 0 [(0, .ref G.2.2.2.2.2.1), (1, .int a1)] []
  unfold zf_J0_indexOf_0f7a4 at hf
  refine zg_aload_n X dJ0_indexOf_0f7a4_0 rfl 0 rfl ?_
  refine zg_iload_n X dJ0_indexOf_0f7a4_1 rfl 1 rfl ?_
  refine zg_iconst (v := 0) X dJ0_indexOf_0f7a4_2 (by decide) ?_
  obtain ⟨b1, hb1, hf⟩ := pl_b hf
  refine zg_cP1 X (zg_runVK X (zc_J0_indexOf_7cf53 G a1 0 fu b1 hb1) gJ0_indexOf_0f7a4_J0_indexOf_7cf53 rfl zh_J0_indexOf_7cf53 ⟨rfl, rfl⟩ ⟨Nat.le_of_ble_eq_true rfl, Nat.le_of_ble_eq_true rfl⟩ rfl (Nat.le_of_ble_eq_true rfl) ⟨Nat.le_of_ble_eq_true rfl, Nat.le_of_ble_eq_true rfl⟩ [] (by decide) rfl rfl dJ0_indexOf_0f7a4_3) rfl ?_
  have hf := Option.some.inj hf
  subst hf
  exact zg_iret X hF rfl rfl () rfl rfl (Nat.le_of_ble_eq_true rfl) (Nat.le_of_ble_eq_true rfl) dJ0_indexOf_0f7a4_6
theorem zh_J1_charAt_3b067 : yJ1_charAt_3b067.cls = RJ1 ∧ yJ1_charAt_3b067.cls ≠ "java/lang/invoke/MethodHandle" ∧ yJ1_charAt_3b067.cls ≠ "java/lang/invoke/VarHandle" ∧ (parseMethodDescriptor yJ1_charAt_3b067.desc).map (fun d => d.parameters.length) = some 2 := by decide +kernel
set_option maxHeartbeats 8000000 in
set_option maxRecDepth 100000 in
theorem zc_J1_charAt_3b067 (G : zgG) (a1 : Int32) (fu : Nat) (res : Int32) (hf : zf_J1_charAt_3b067 fu a1 = some res) : zgCt G yJ1_charAt_3b067 wsJ1_charAt_3b067 ({ frames := 2, cells := 0, slots := 0, locals := 43 } : Room) [.ref G.2.2.2.2.2.2, .int a1] [] (fun _ : Unit => some (.int res)) (fun _ => []) 0 0 := by
  refine zg_of (own := RJ1) (cc := cJ1_charAt_3b067) (nL := 2) (ret := (some .char)) (by decide +kernel) rfl rfl (Nat.le_of_ble_eq_true rfl) (fun Z X hF => ?_)
  show zgGd G Z _ 0 0 2 _ 0 [(0, .ref G.2.2.2.2.2.2), (1, .int a1)] []
  unfold zf_J1_charAt_3b067 at hf
  refine zg_iload_n X dJ1_charAt_3b067_0 rfl 1 rfl ?_
  refine zg_aload_n X dJ1_charAt_3b067_1 rfl 0 rfl ?_
  refine zg_klen X dJ1_charAt_3b067_2 ?_
  obtain ⟨hc0, hc1, hf⟩ := pl_ck hf
  refine zg_cP0 X (zg_runS X (zc_J0_checkIndex_df160 G a1 26 hc0 hc1) gJ1_charAt_3b067_J0_checkIndex_df160 rfl zh_J0_checkIndex_df160 ⟨rfl, rfl⟩ ⟨Nat.le_of_ble_eq_true rfl, Nat.le_of_ble_eq_true rfl⟩ rfl (Nat.le_of_ble_eq_true rfl) ⟨Nat.le_of_ble_eq_true rfl, Nat.le_of_ble_eq_true rfl⟩ [] (by decide) rfl rfl dJ1_charAt_3b067_3) rfl ?_
  refine zg_aload_n X dJ1_charAt_3b067_6 rfl 0 rfl ?_
  refine zg_iload_n X dJ1_charAt_3b067_7 rfl 1 rfl ?_
  obtain ⟨hin, hf⟩ := pl_in hf
  obtain ⟨x1, ex1, hf⟩ := pl_l hf
  refine zg_kbald X hin dJ1_charAt_3b067_8 ?_
  refine zg_topi ex1 ?_
  refine zg_sipush (v := 255) X dJ1_charAt_3b067_9 (by decide) ?_
  refine zg_iand X dJ1_charAt_3b067_12 ?_
  refine zg_i2c X dJ1_charAt_3b067_13 ?_
  obtain ⟨x2, ex2, hf⟩ := pl_l hf
  refine zg_topi ex2 ?_
  obtain ⟨hb3, hf⟩ := pl_ch hf
  have hf := Option.some.inj hf
  subst hf
  exact zg_iret X hF rfl (pl_nch hb3) () rfl rfl (Nat.le_of_ble_eq_true rfl) (Nat.le_of_ble_eq_true rfl) dJ1_charAt_3b067_14
theorem zh_J0_charAt_5068e : yJ0_charAt_5068e.cls = RJ0 ∧ yJ0_charAt_5068e.cls ≠ "java/lang/invoke/MethodHandle" ∧ yJ0_charAt_5068e.cls ≠ "java/lang/invoke/VarHandle" ∧ (parseMethodDescriptor yJ0_charAt_5068e.desc).map (fun d => d.parameters.length) = some 1 := by decide +kernel
set_option maxHeartbeats 8000000 in
set_option maxRecDepth 100000 in
theorem zc_J0_charAt_5068e (G : zgG) (a1 : Int32) (fu : Nat) (res : Int32) (hf : zf_J0_charAt_5068e fu a1 = some res) : zgCt G yJ0_charAt_5068e wsJ0_charAt_5068e ({ frames := 3, cells := 0, slots := 0, locals := 64 } : Room) [.ref G.2.2.2.2.2.1, .int a1] [] (fun _ : Unit => some (.int res)) (fun _ => []) 0 0 := by
  have hw0 : Cond.fieldLink RJ0 9 "java/lang/String" "value" "[B" ∈ wsJ0_charAt_5068e := by decide +kernel
  refine zg_of (own := RJ0) (cc := cJ0_charAt_5068e) (nL := 2) (ret := (some .char)) (by decide +kernel) rfl rfl (Nat.le_of_ble_eq_true rfl) (fun Z X hF => ?_)
  show zgGd G Z _ 0 0 2 _ 0 [(0, .ref G.2.2.2.2.2.1), (1, .int a1)] []
  unfold zf_J0_charAt_5068e at hf
  refine zg_aload_n X dJ0_charAt_5068e_0 rfl 0 rfl ?_
  obtain ⟨b1, hb1, hf⟩ := pl_b hf
  refine zg_cP1 X (zg_runVK X (zc_J0_isLatin1_aae02 G  fu b1 hb1) gJ0_charAt_5068e_J0_isLatin1_aae02 rfl zh_J0_isLatin1_aae02 ⟨rfl, rfl⟩ ⟨Nat.le_of_ble_eq_true rfl, Nat.le_of_ble_eq_true rfl⟩ rfl (Nat.le_of_ble_eq_true rfl) ⟨Nat.le_of_ble_eq_true rfl, Nat.le_of_ble_eq_true rfl⟩ [] (by decide) rfl rfl dJ0_charAt_5068e_1) rfl ?_
  refine zg_if_eq (tgt := 16) X dJ0_charAt_5068e_4 (by decide) (fun c2 => ?_) (fun c2 => ?_)
  · have hf := pl_t c2 hf
    refine zg_aload_n X dJ0_charAt_5068e_16 rfl 0 rfl ?_
    refine zg_kval X hw0 dJ0_charAt_5068e_17 ?_
    refine zg_iload_n X dJ0_charAt_5068e_20 rfl 1 rfl ?_
    cases hf
  · have hf := pl_f c2 hf
    refine zg_aload_n X dJ0_charAt_5068e_7 rfl 0 rfl ?_
    refine zg_kval X hw0 dJ0_charAt_5068e_8 ?_
    refine zg_iload_n X dJ0_charAt_5068e_11 rfl 1 rfl ?_
    obtain ⟨b3, hb3, hf⟩ := pl_b hf
    refine zg_cP1 X (zg_runS X (zc_J1_charAt_3b067 G a1 fu b3 hb3) gJ0_charAt_5068e_J1_charAt_3b067 rfl zh_J1_charAt_3b067.2 ⟨rfl, rfl⟩ ⟨Nat.le_of_ble_eq_true rfl, Nat.le_of_ble_eq_true rfl⟩ rfl (Nat.le_of_ble_eq_true rfl) ⟨Nat.le_of_ble_eq_true rfl, Nat.le_of_ble_eq_true rfl⟩ [] (by decide) rfl rfl dJ0_charAt_5068e_12) rfl ?_
    obtain ⟨hb4, hf⟩ := pl_ch hf
    have hf := Option.some.inj hf
    subst hf
    exact zg_iret X hF rfl (pl_nch hb4) () rfl rfl (Nat.le_of_ble_eq_true rfl) (Nat.le_of_ble_eq_true rfl) dJ0_charAt_5068e_15
