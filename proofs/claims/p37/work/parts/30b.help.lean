def zf_L_append (fu : Nat) (v0 : zTR) (a1 : Int32) : Option (Int32 × zTR) := (zf_X7_append fu v0 a1).bind fun b => if b.1 = 0 then some (b.2.1, b.2.2) else if b.1 = 1 then some ((-2 : Int32), b.2.2) else if b.1 = 2 then some ((-3 : Int32), b.2.2) else none
theorem zh_L_append : yL_append.cls ≠ "java/lang/invoke/MethodHandle" ∧ yL_append.cls ≠ "java/lang/invoke/VarHandle" ∧ (parseMethodDescriptor yL_append.desc).map (fun d => d.parameters.length) = some 2 := by decide +kernel
set_option maxHeartbeats 4000000 in
set_option maxRecDepth 20000 in
theorem zc_L_append (G : zgG) (hst : G.1.stackTraces = false) (a hb : Nat → Nat) (v0 : zTR) (a1 : Int32) (fu : Nat) (res : (Int32 × zTR)) (hf : zf_L_append fu v0 a1 = some res) : zgCt (σ := Nat → Nat) G yL_append wsL_append ({ frames := 7, cells := 1, slots := 6, locals := 153 } : Room) [.ref (a 0), .int a1] (zTc G a hb v0) (fun _ => some (.int res.1)) (fun h => zTc G a h res.2) 1 6 := by
  have hl15 : Cond.classLink RL 15 "java/lang/IllegalArgumentException" ∈ wsL_append := by decide +kernel
  have hl17 : Cond.classLink RL 17 "java/lang/IllegalStateException" ∈ wsL_append := by decide +kernel
  refine zg_ofW (own := RL) (cc := cL_append) (nL := 3) (ret := (some .int)) (hh := [(0, 5, 6, 15), (0, 5, 10, 17)]) (by decide +kernel) rfl rfl (Nat.le_of_ble_eq_true rfl) (fun Z X htab hF => ?_)
  show zgGd G Z _ 0 0 3 _ 0 [(0, .ref (a 0)), (1, .int a1)] []
  unfold zf_L_append at hf
  refine zg_aload_n X dL_append_0 rfl 0 rfl ?_
  refine zg_iload_n X dL_append_1 rfl 1 rfl ?_
  obtain ⟨⟨bk, bv, bs⟩, hq, hf⟩ := pl_b hf
  refine zg_callX (wr := []) X (zg_runVX X (zt_X7_append G hst a hb v0 a1 fu (bk, bv, bs) hq) gL_append_X7_append rfl zh_X7_append ⟨rfl, rfl⟩ ⟨Nat.le_of_ble_eq_true rfl, Nat.le_of_ble_eq_true rfl⟩ rfl rfl rfl (Nat.le_of_ble_eq_true rfl) ⟨Nat.le_of_ble_eq_true rfl, Nat.le_of_ble_eq_true rfl⟩ zI1 zT_nd zT_ix rfl dL_append_2) [] rfl rfl (fun _ h => absurd h List.not_mem_nil) (fun ho _ => ?_) (fun E ho _ => ?_)
  · have h0 : bk = 0 := zxo_n ho
    subst h0
    have hf := pl_t rfl hf
    have hf := Option.some.inj hf
    subst hf
    show zgGd G Z _ _ _ 3 (zTc G a hb bs) _ _ [.int bv]
    exact zg_iret X hF rfl rfl hb rfl rfl (Nat.le_of_ble_eq_true rfl) (Nat.le_of_ble_eq_true rfl) dL_append_5
  · rcases zxo_2 ho with ⟨h1, rfl⟩ | ⟨h0, h1, rfl⟩
    · have h1 : bk = 1 := h1
      subst h1
      have hf := pl_t rfl (pl_f (show ¬ ((1 : Int32) = 0) by decide) hf)
      have hf := Option.some.inj hf
      subst hf
      refine zg_catch (name := "java/lang/IllegalArgumentException") X [] ⟨0, 5, 6, 15⟩ _ htab rfl (fun z hz => nomatch hz) (by decide) (by decide) hl15 (by decide +kernel) (hpc := 6) rfl (fun q => ?_)
      refine zg_astore_n (L' := [(2, .ref q), (0, .ref (a 0)), (1, .int a1)]) X dL_append_6 rfl (by decide) rfl ?_
      refine zg_bipush (v := (-2)) X dL_append_7 (by decide) ?_
      show zgGd G Z _ _ _ 3 (zTc G a hb bs) _ _ _
      exact zg_iret X hF rfl rfl hb rfl rfl (Nat.le_of_ble_eq_true rfl) (Nat.le_of_ble_eq_true rfl) dL_append_9
    · obtain ⟨h2, hf⟩ := pl_k (pl_f h1 (pl_f h0 hf))
      have h2 : bk = 2 := h2
      subst h2
      have hf := Option.some.inj hf
      subst hf
      refine zg_catch (name := "java/lang/IllegalStateException") X [⟨0, 5, 6, 15⟩] ⟨0, 5, 10, 17⟩ _ htab rfl (fun z hz => by rw [List.mem_singleton.mp hz]; exact Or.inr ⟨by decide, _, hl15, X.ex.nc1⟩) (by decide) (by decide) hl17 (by decide +kernel) (hpc := 10) rfl (fun q => ?_)
      refine zg_astore_n (L' := [(2, .ref q), (0, .ref (a 0)), (1, .int a1)]) X dL_append_10 rfl (by decide) rfl ?_
      refine zg_bipush (v := (-3)) X dL_append_11 (by decide) ?_
      show zgGd G Z _ _ _ 3 (zTc G a hb bs) _ _ _
      exact zg_iret X hF rfl rfl hb rfl rfl (Nat.le_of_ble_eq_true rfl) (Nat.le_of_ble_eq_true rfl) dL_append_13
def zf_L_send (fu : Nat) (v0 : zTR) : Option (Int32 × zTR) := (zf_X7_send fu v0).bind fun b => if b.1 = 0 then some (b.2.1, b.2.2) else if b.1 = 1 then some ((-2 : Int32), b.2.2) else none
theorem zh_L_send : yL_send.cls ≠ "java/lang/invoke/MethodHandle" ∧ yL_send.cls ≠ "java/lang/invoke/VarHandle" ∧ (parseMethodDescriptor yL_send.desc).map (fun d => d.parameters.length) = some 1 := by decide +kernel
set_option maxHeartbeats 4000000 in
set_option maxRecDepth 20000 in
theorem zc_L_send (G : zgG) (hst : G.1.stackTraces = false) (a hb : Nat → Nat) (v0 : zTR) (fu : Nat) (res : (Int32 × zTR)) (hf : zf_L_send fu v0 = some res) : zgCt (σ := Nat → Nat) G yL_send wsL_send ({ frames := 9, cells := 1, slots := 6, locals := 203 } : Room) [.ref (a 0)] (zTc G a hb v0) (fun _ => some (.int res.1)) (fun h => zTc G a h res.2) 1 6 := by
  have hl17 : Cond.classLink RL 17 "java/lang/IllegalStateException" ∈ wsL_send := by decide +kernel
  refine zg_ofW (own := RL) (cc := cL_send) (nL := 2) (ret := (some .int)) (hh := [(0, 4, 5, 17)]) (by decide +kernel) rfl rfl (Nat.le_of_ble_eq_true rfl) (fun Z X htab hF => ?_)
  show zgGd G Z _ 0 0 2 _ 0 [(0, .ref (a 0))] []
  unfold zf_L_send at hf
  refine zg_aload_n X dL_send_0 rfl 0 rfl ?_
  obtain ⟨⟨bk, bv, bs⟩, hq, hf⟩ := pl_b hf
  refine zg_callX (wr := []) X (zg_runVX X (zt_X7_send G hst a hb v0 fu (bk, bv, bs) hq) gL_send_X7_send rfl zh_X7_send ⟨rfl, rfl⟩ ⟨Nat.le_of_ble_eq_true rfl, Nat.le_of_ble_eq_true rfl⟩ rfl rfl rfl (Nat.le_of_ble_eq_true rfl) ⟨Nat.le_of_ble_eq_true rfl, Nat.le_of_ble_eq_true rfl⟩ zI1 zT_nd zT_ix rfl dL_send_1) [] rfl rfl (fun _ h => absurd h List.not_mem_nil) (fun ho _ => ?_) (fun E ho _ => ?_)
  · have h0 : bk = 0 := zxo_n ho
    subst h0
    have hf := pl_t rfl hf
    have hf := Option.some.inj hf
    subst hf
    show zgGd G Z _ _ _ 2 (zTc G a (zhx 0 v0.2.2.2.2.2 hb) bs) _ _ [.int bv]
    exact zg_iret X hF rfl rfl (zhx 0 v0.2.2.2.2.2 hb) rfl rfl (Nat.le_of_ble_eq_true rfl) (Nat.le_of_ble_eq_true rfl) dL_send_4
  · obtain ⟨h0, rfl⟩ := zxo_1 ho
    obtain ⟨h1, hf⟩ := pl_k (pl_f h0 hf)
    have h1 : bk = 1 := h1
    subst h1
    have hf := Option.some.inj hf
    subst hf
    refine zg_catch (name := "java/lang/IllegalStateException") X [] ⟨0, 4, 5, 17⟩ _ htab rfl (fun z hz => nomatch hz) (by decide) (by decide) hl17 (by decide +kernel) (hpc := 5) rfl (fun q => ?_)
    refine zg_astore_n (L' := [(1, .ref q), (0, .ref (a 0))]) X dL_send_5 rfl (by decide) rfl ?_
    refine zg_bipush (v := (-2)) X dL_send_6 (by decide) ?_
    show zgGd G Z _ _ _ 2 (zTc G a (zhx 1 v0.2.2.2.2.2 hb) bs) _ _ _
    exact zg_iret X hF rfl rfl (zhx 1 v0.2.2.2.2.2 hb) rfl rfl (Nat.le_of_ble_eq_true rfl) (Nat.le_of_ble_eq_true rfl) dL_send_8
def zf_L_setFault (fu : Nat) (v0 : zTR) (a1 : Int32) (a2 : Int32) : Option (Int32 × zTR) := (zf_X7_setFault fu v0 a1 a2).bind fun b => if b.1 = 0 then some (b.2.1, b.2.2) else if b.1 = 1 then some ((-3 : Int32), b.2.2) else if b.1 = 2 then some ((-2 : Int32), b.2.2) else none
theorem zh_L_setFault : yL_setFault.cls ≠ "java/lang/invoke/MethodHandle" ∧ yL_setFault.cls ≠ "java/lang/invoke/VarHandle" ∧ (parseMethodDescriptor yL_setFault.desc).map (fun d => d.parameters.length) = some 3 := by decide +kernel
set_option maxHeartbeats 4000000 in
set_option maxRecDepth 20000 in
theorem zc_L_setFault (G : zgG) (hst : G.1.stackTraces = false) (a hb : Nat → Nat) (v0 : zTR) (a1 : Int32) (a2 : Int32) (fu : Nat) (res : (Int32 × zTR)) (hf : zf_L_setFault fu v0 a1 a2 = some res) : zgCt (σ := Nat → Nat) G yL_setFault wsL_setFault ({ frames := 7, cells := 1, slots := 6, locals := 113 } : Room) [.ref (a 0), .int a1, .int a2] (zTc G a hb v0) (fun _ => some (.int res.1)) (fun h => zTc G a h res.2) 1 6 := by
  have hl27 : Cond.classLink RL 27 "java/lang/IndexOutOfBoundsException" ∈ wsL_setFault := by decide +kernel
  have hl15 : Cond.classLink RL 15 "java/lang/IllegalArgumentException" ∈ wsL_setFault := by decide +kernel
  refine zg_ofW (own := RL) (cc := cL_setFault) (nL := 4) (ret := (some .int)) (hh := [(0, 6, 7, 27), (0, 6, 11, 15)]) (by decide +kernel) rfl rfl (Nat.le_of_ble_eq_true rfl) (fun Z X htab hF => ?_)
  show zgGd G Z _ 0 0 4 _ 0 [(0, .ref (a 0)), (1, .int a1), (2, .int a2)] []
  unfold zf_L_setFault at hf
  refine zg_aload_n X dL_setFault_0 rfl 0 rfl ?_
  refine zg_iload_n X dL_setFault_1 rfl 1 rfl ?_
  refine zg_iload_n X dL_setFault_2 rfl 2 rfl ?_
  obtain ⟨⟨bk, bv, bs⟩, hq, hf⟩ := pl_b hf
  refine zg_callX (wr := []) X (zg_runVX X (zt_X7_setFault G hst a hb v0 a1 a2 fu (bk, bv, bs) hq) gL_setFault_X7_setFault rfl zh_X7_setFault ⟨rfl, rfl⟩ ⟨Nat.le_of_ble_eq_true rfl, Nat.le_of_ble_eq_true rfl⟩ rfl rfl rfl (Nat.le_of_ble_eq_true rfl) ⟨Nat.le_of_ble_eq_true rfl, Nat.le_of_ble_eq_true rfl⟩ zI1 zT_nd zT_ix rfl dL_setFault_3) [] rfl rfl (fun _ h => absurd h List.not_mem_nil) (fun ho _ => ?_) (fun E ho _ => ?_)
  · have h0 : bk = 0 := zxo_n ho
    subst h0
    have hf := pl_t rfl hf
    have hf := Option.some.inj hf
    subst hf
    show zgGd G Z _ _ _ 4 (zTc G a (zhx 0 v0.2.2.2.2.2 hb) bs) _ _ [.int bv]
    exact zg_iret X hF rfl rfl (zhx 0 v0.2.2.2.2.2 hb) rfl rfl (Nat.le_of_ble_eq_true rfl) (Nat.le_of_ble_eq_true rfl) dL_setFault_6
  · rcases zxo_2 ho with ⟨h1, rfl⟩ | ⟨h0, h1, rfl⟩
    · have h1 : bk = 1 := h1
      subst h1
      have hf := pl_t rfl (pl_f (show ¬ ((1 : Int32) = 0) by decide) hf)
      have hf := Option.some.inj hf
      subst hf
      refine zg_catch (name := "java/lang/IndexOutOfBoundsException") X [] ⟨0, 6, 7, 27⟩ _ htab rfl (fun z hz => nomatch hz) (by decide) (by decide) hl27 (by decide +kernel) (hpc := 7) rfl (fun q => ?_)
      refine zg_astore_n (L' := [(3, .ref q), (0, .ref (a 0)), (1, .int a1), (2, .int a2)]) X dL_setFault_7 rfl (by decide) rfl ?_
      refine zg_bipush (v := (-3)) X dL_setFault_8 (by decide) ?_
      show zgGd G Z _ _ _ 4 (zTc G a (zhx 1 v0.2.2.2.2.2 hb) bs) _ _ _
      exact zg_iret X hF rfl rfl (zhx 1 v0.2.2.2.2.2 hb) rfl rfl (Nat.le_of_ble_eq_true rfl) (Nat.le_of_ble_eq_true rfl) dL_setFault_10
    · obtain ⟨h2, hf⟩ := pl_k (pl_f h1 (pl_f h0 hf))
      have h2 : bk = 2 := h2
      subst h2
      have hf := Option.some.inj hf
      subst hf
      refine zg_catch (name := "java/lang/IllegalArgumentException") X [⟨0, 6, 7, 27⟩] ⟨0, 6, 11, 15⟩ _ htab rfl (fun z hz => by rw [List.mem_singleton.mp hz]; exact Or.inr ⟨by decide, _, hl27, X.ex.nc2⟩) (by decide) (by decide) hl15 (by decide +kernel) (hpc := 11) rfl (fun q => ?_)
      refine zg_astore_n (L' := [(3, .ref q), (0, .ref (a 0)), (1, .int a1), (2, .int a2)]) X dL_setFault_11 rfl (by decide) rfl ?_
      refine zg_bipush (v := (-2)) X dL_setFault_12 (by decide) ?_
      show zgGd G Z _ _ _ 4 (zTc G a (zhx 2 v0.2.2.2.2.2 hb) bs) _ _ _
      exact zg_iret X hF rfl rfl (zhx 2 v0.2.2.2.2.2 hb) rfl rfl (Nat.le_of_ble_eq_true rfl) (Nat.le_of_ble_eq_true rfl) dL_setFault_14
def zf_L_learn (fu : Nat) (v0 : zTR) : Option (Int32 × zTR) := (zf_X7_learn fu v0).bind fun b => if b.1 = 0 then some (b.2.1, b.2.2) else if b.1 = 1 then some ((-2 : Int32), b.2.2) else if b.1 = 2 then some ((-3 : Int32), b.2.2) else none
theorem zh_L_learn : yL_learn.cls ≠ "java/lang/invoke/MethodHandle" ∧ yL_learn.cls ≠ "java/lang/invoke/VarHandle" ∧ (parseMethodDescriptor yL_learn.desc).map (fun d => d.parameters.length) = some 1 := by decide +kernel
set_option maxHeartbeats 4000000 in
set_option maxRecDepth 20000 in
theorem zc_L_learn (G : zgG) (hst : G.1.stackTraces = false) (a hb : Nat → Nat) (v0 : zTR) (fu : Nat) (res : (Int32 × zTR)) (hf : zf_L_learn fu v0 = some res) : zgCt (σ := Nat → Nat) G yL_learn wsL_learn ({ frames := 8, cells := 1, slots := 6, locals := 181 } : Room) [.ref (a 0)] (zTc G a hb v0) (fun _ => some (.int res.1)) (fun h => zTc G a h res.2) 1 6 := by
  have hl15 : Cond.classLink RL 15 "java/lang/IllegalArgumentException" ∈ wsL_learn := by decide +kernel
  have hl17 : Cond.classLink RL 17 "java/lang/IllegalStateException" ∈ wsL_learn := by decide +kernel
  refine zg_ofW (own := RL) (cc := cL_learn) (nL := 2) (ret := (some .int)) (hh := [(0, 4, 5, 15), (0, 4, 9, 17)]) (by decide +kernel) rfl rfl (Nat.le_of_ble_eq_true rfl) (fun Z X htab hF => ?_)
  show zgGd G Z _ 0 0 2 _ 0 [(0, .ref (a 0))] []
  unfold zf_L_learn at hf
  refine zg_aload_n X dL_learn_0 rfl 0 rfl ?_
  obtain ⟨⟨bk, bv, bs⟩, hq, hf⟩ := pl_b hf
  refine zg_callX (wr := []) X (zg_runVX X (zt_X7_learn G hst a hb v0 fu (bk, bv, bs) hq) gL_learn_X7_learn rfl zh_X7_learn ⟨rfl, rfl⟩ ⟨Nat.le_of_ble_eq_true rfl, Nat.le_of_ble_eq_true rfl⟩ rfl rfl rfl (Nat.le_of_ble_eq_true rfl) ⟨Nat.le_of_ble_eq_true rfl, Nat.le_of_ble_eq_true rfl⟩ zI1 zT_nd zT_ix rfl dL_learn_1) [] rfl rfl (fun _ h => absurd h List.not_mem_nil) (fun ho _ => ?_) (fun E ho _ => ?_)
  · have h0 : bk = 0 := zxo_n ho
    subst h0
    have hf := pl_t rfl hf
    have hf := Option.some.inj hf
    subst hf
    show zgGd G Z _ _ _ 2 (zTc G a (zhx 0 v0.2.2.2.2.2 hb) bs) _ _ [.int bv]
    exact zg_iret X hF rfl rfl (zhx 0 v0.2.2.2.2.2 hb) rfl rfl (Nat.le_of_ble_eq_true rfl) (Nat.le_of_ble_eq_true rfl) dL_learn_4
  · rcases zxo_2 ho with ⟨h1, rfl⟩ | ⟨h0, h1, rfl⟩
    · have h1 : bk = 1 := h1
      subst h1
      have hf := pl_t rfl (pl_f (show ¬ ((1 : Int32) = 0) by decide) hf)
      have hf := Option.some.inj hf
      subst hf
      refine zg_catch (name := "java/lang/IllegalArgumentException") X [] ⟨0, 4, 5, 15⟩ _ htab rfl (fun z hz => nomatch hz) (by decide) (by decide) hl15 (by decide +kernel) (hpc := 5) rfl (fun q => ?_)
      refine zg_astore_n (L' := [(1, .ref q), (0, .ref (a 0))]) X dL_learn_5 rfl (by decide) rfl ?_
      refine zg_bipush (v := (-2)) X dL_learn_6 (by decide) ?_
      show zgGd G Z _ _ _ 2 (zTc G a (zhx 1 v0.2.2.2.2.2 hb) bs) _ _ _
      exact zg_iret X hF rfl rfl (zhx 1 v0.2.2.2.2.2 hb) rfl rfl (Nat.le_of_ble_eq_true rfl) (Nat.le_of_ble_eq_true rfl) dL_learn_8
    · obtain ⟨h2, hf⟩ := pl_k (pl_f h1 (pl_f h0 hf))
      have h2 : bk = 2 := h2
      subst h2
      have hf := Option.some.inj hf
      subst hf
      refine zg_catch (name := "java/lang/IllegalStateException") X [⟨0, 4, 5, 15⟩] ⟨0, 4, 9, 17⟩ _ htab rfl (fun z hz => by rw [List.mem_singleton.mp hz]; exact Or.inr ⟨by decide, _, hl15, X.ex.nc1⟩) (by decide) (by decide) hl17 (by decide +kernel) (hpc := 9) rfl (fun q => ?_)
      refine zg_astore_n (L' := [(1, .ref q), (0, .ref (a 0))]) X dL_learn_9 rfl (by decide) rfl ?_
      refine zg_bipush (v := (-3)) X dL_learn_10 (by decide) ?_
      show zgGd G Z _ _ _ 2 (zTc G a (zhx 2 v0.2.2.2.2.2 hb) bs) _ _ _
      exact zg_iret X hF rfl rfl (zhx 2 v0.2.2.2.2.2 hb) rfl rfl (Nat.le_of_ble_eq_true rfl) (Nat.le_of_ble_eq_true rfl) dL_learn_12
def zf_L_forget (fu : Nat) (v0 : zTR) (a1 : Int32) : Option (Int32 × zTR) := (zf_X7_forget fu v0 a1).bind fun b => if b.1 = 0 then some (b.2.1, b.2.2) else if b.1 = 1 then some ((-2 : Int32), b.2.2) else none
theorem zh_L_forget : yL_forget.cls ≠ "java/lang/invoke/MethodHandle" ∧ yL_forget.cls ≠ "java/lang/invoke/VarHandle" ∧ (parseMethodDescriptor yL_forget.desc).map (fun d => d.parameters.length) = some 2 := by decide +kernel
set_option maxHeartbeats 4000000 in
set_option maxRecDepth 20000 in
theorem zc_L_forget (G : zgG) (hst : G.1.stackTraces = false) (a hb : Nat → Nat) (v0 : zTR) (a1 : Int32) (fu : Nat) (res : (Int32 × zTR)) (hf : zf_L_forget fu v0 a1 = some res) : zgCt (σ := Nat → Nat) G yL_forget wsL_forget ({ frames := 8, cells := 1, slots := 6, locals := 181 } : Room) [.ref (a 0), .int a1] (zTc G a hb v0) (fun _ => some (.int res.1)) (fun h => zTc G a h res.2) 1 6 := by
  have hl27 : Cond.classLink RL 27 "java/lang/IndexOutOfBoundsException" ∈ wsL_forget := by decide +kernel
  refine zg_ofW (own := RL) (cc := cL_forget) (nL := 3) (ret := (some .int)) (hh := [(0, 5, 6, 27)]) (by decide +kernel) rfl rfl (Nat.le_of_ble_eq_true rfl) (fun Z X htab hF => ?_)
  show zgGd G Z _ 0 0 3 _ 0 [(0, .ref (a 0)), (1, .int a1)] []
  unfold zf_L_forget at hf
  refine zg_aload_n X dL_forget_0 rfl 0 rfl ?_
  refine zg_iload_n X dL_forget_1 rfl 1 rfl ?_
  obtain ⟨⟨bk, bv, bs⟩, hq, hf⟩ := pl_b hf
  refine zg_callX (wr := []) X (zg_runVX X (zt_X7_forget G hst a hb v0 a1 fu (bk, bv, bs) hq) gL_forget_X7_forget rfl zh_X7_forget ⟨rfl, rfl⟩ ⟨Nat.le_of_ble_eq_true rfl, Nat.le_of_ble_eq_true rfl⟩ rfl rfl rfl (Nat.le_of_ble_eq_true rfl) ⟨Nat.le_of_ble_eq_true rfl, Nat.le_of_ble_eq_true rfl⟩ zI1 zT_nd zT_ix rfl dL_forget_2) [] rfl rfl (fun _ h => absurd h List.not_mem_nil) (fun ho _ => ?_) (fun E ho _ => ?_)
  · have h0 : bk = 0 := zxo_n ho
    subst h0
    have hf := pl_t rfl hf
    have hf := Option.some.inj hf
    subst hf
    show zgGd G Z _ _ _ 3 (zTc G a (zhx 0 v0.2.2.2.2.2 hb) bs) _ _ [.int bv]
    exact zg_iret X hF rfl rfl (zhx 0 v0.2.2.2.2.2 hb) rfl rfl (Nat.le_of_ble_eq_true rfl) (Nat.le_of_ble_eq_true rfl) dL_forget_5
  · obtain ⟨h0, rfl⟩ := zxo_1 ho
    obtain ⟨h1, hf⟩ := pl_k (pl_f h0 hf)
    have h1 : bk = 1 := h1
    subst h1
    have hf := Option.some.inj hf
    subst hf
    refine zg_catch (name := "java/lang/IndexOutOfBoundsException") X [] ⟨0, 5, 6, 27⟩ _ htab rfl (fun z hz => nomatch hz) (by decide) (by decide) hl27 (by decide +kernel) (hpc := 6) rfl (fun q => ?_)
    refine zg_astore_n (L' := [(2, .ref q), (0, .ref (a 0)), (1, .int a1)]) X dL_forget_6 rfl (by decide) rfl ?_
    refine zg_bipush (v := (-2)) X dL_forget_7 (by decide) ?_
    show zgGd G Z _ _ _ 3 (zTc G a (zhx 1 v0.2.2.2.2.2 hb) bs) _ _ _
    exact zg_iret X hF rfl rfl (zhx 1 v0.2.2.2.2.2 hb) rfl rfl (Nat.le_of_ble_eq_true rfl) (Nat.le_of_ble_eq_true rfl) dL_forget_9
def zf_L_sentCode (fu : Nat) (v0 : zTR) (a1 : Int32) : Option Int32 := (zf_X7_sentCode fu v0 a1).bind fun b => if b.1 = 0 then some b.2 else if b.1 = 1 then some (-2 : Int32) else none
theorem zh_L_sentCode : yL_sentCode.cls ≠ "java/lang/invoke/MethodHandle" ∧ yL_sentCode.cls ≠ "java/lang/invoke/VarHandle" ∧ (parseMethodDescriptor yL_sentCode.desc).map (fun d => d.parameters.length) = some 2 := by decide +kernel
set_option maxHeartbeats 4000000 in
set_option maxRecDepth 20000 in
theorem zc_L_sentCode (G : zgG) (hst : G.1.stackTraces = false) (a hb : Nat → Nat) (v0 : zTR) (a1 : Int32) (fu : Nat) (res : Int32) (hf : zf_L_sentCode fu v0 a1 = some res) : zgCt (σ := Nat → Nat) G yL_sentCode wsL_sentCode ({ frames := 7, cells := 1, slots := 6, locals := 111 } : Room) [.ref (a 0), .int a1] (zTc G a hb v0) (fun _ => some (.int res)) (fun h => zTc G a h v0) 1 6 := by
  have hl27 : Cond.classLink RL 27 "java/lang/IndexOutOfBoundsException" ∈ wsL_sentCode := by decide +kernel
  refine zg_ofW (own := RL) (cc := cL_sentCode) (nL := 3) (ret := (some .int)) (hh := [(0, 5, 6, 27)]) (by decide +kernel) rfl rfl (Nat.le_of_ble_eq_true rfl) (fun Z X htab hF => ?_)
  show zgGd G Z _ 0 0 3 _ 0 [(0, .ref (a 0)), (1, .int a1)] []
  unfold zf_L_sentCode at hf
  refine zg_aload_n X dL_sentCode_0 rfl 0 rfl ?_
  refine zg_iload_n X dL_sentCode_1 rfl 1 rfl ?_
  obtain ⟨⟨bk, bv⟩, hq, hf⟩ := pl_b hf
  refine zg_callX (wr := []) X (zg_runVX X (zt_X7_sentCode G hst a hb v0 a1 fu (bk, bv) hq) gL_sentCode_X7_sentCode rfl zh_X7_sentCode ⟨rfl, rfl⟩ ⟨Nat.le_of_ble_eq_true rfl, Nat.le_of_ble_eq_true rfl⟩ rfl rfl rfl (Nat.le_of_ble_eq_true rfl) ⟨Nat.le_of_ble_eq_true rfl, Nat.le_of_ble_eq_true rfl⟩ zI1 zT_nd zT_ix rfl dL_sentCode_2) [] rfl rfl (fun _ h => absurd h List.not_mem_nil) (fun ho _ => ?_) (fun E ho _ => ?_)
  · have h0 : bk = 0 := zxo_n ho
    subst h0
    have hf := pl_t rfl hf
    have hf := Option.some.inj hf
    subst hf
    show zgGd G Z _ _ _ 3 (zTc G a hb v0) _ _ [.int bv]
    exact zg_iret X hF rfl rfl hb rfl rfl (Nat.le_of_ble_eq_true rfl) (Nat.le_of_ble_eq_true rfl) dL_sentCode_5
  · obtain ⟨h0, rfl⟩ := zxo_1 ho
    obtain ⟨h1, hf⟩ := pl_k (pl_f h0 hf)
    have h1 : bk = 1 := h1
    subst h1
    have hf := Option.some.inj hf
    subst hf
    refine zg_catch (name := "java/lang/IndexOutOfBoundsException") X [] ⟨0, 5, 6, 27⟩ _ htab rfl (fun z hz => nomatch hz) (by decide) (by decide) hl27 (by decide +kernel) (hpc := 6) rfl (fun q => ?_)
    refine zg_astore_n (L' := [(2, .ref q), (0, .ref (a 0)), (1, .int a1)]) X dL_sentCode_6 rfl (by decide) rfl ?_
    refine zg_bipush (v := (-2)) X dL_sentCode_7 (by decide) ?_
    show zgGd G Z _ _ _ 3 (zTc G a hb v0) _ _ _
    exact zg_iret X hF rfl rfl hb rfl rfl (Nat.le_of_ble_eq_true rfl) (Nat.le_of_ble_eq_true rfl) dL_sentCode_9
def zf_L_receivedCode (fu : Nat) (v0 : zTR) (a1 : Int32) : Option Int32 := (zf_X7_receivedCode fu v0 a1).bind fun b => if b.1 = 0 then some b.2 else if b.1 = 1 then some (-2 : Int32) else none
theorem zh_L_receivedCode : yL_receivedCode.cls ≠ "java/lang/invoke/MethodHandle" ∧ yL_receivedCode.cls ≠ "java/lang/invoke/VarHandle" ∧ (parseMethodDescriptor yL_receivedCode.desc).map (fun d => d.parameters.length) = some 2 := by decide +kernel
set_option maxHeartbeats 4000000 in
set_option maxRecDepth 20000 in
theorem zc_L_receivedCode (G : zgG) (hst : G.1.stackTraces = false) (a hb : Nat → Nat) (v0 : zTR) (a1 : Int32) (fu : Nat) (res : Int32) (hf : zf_L_receivedCode fu v0 a1 = some res) : zgCt (σ := Nat → Nat) G yL_receivedCode wsL_receivedCode ({ frames := 7, cells := 1, slots := 6, locals := 111 } : Room) [.ref (a 0), .int a1] (zTc G a hb v0) (fun _ => some (.int res)) (fun h => zTc G a h v0) 1 6 := by
  have hl27 : Cond.classLink RL 27 "java/lang/IndexOutOfBoundsException" ∈ wsL_receivedCode := by decide +kernel
  refine zg_ofW (own := RL) (cc := cL_receivedCode) (nL := 3) (ret := (some .int)) (hh := [(0, 5, 6, 27)]) (by decide +kernel) rfl rfl (Nat.le_of_ble_eq_true rfl) (fun Z X htab hF => ?_)
  show zgGd G Z _ 0 0 3 _ 0 [(0, .ref (a 0)), (1, .int a1)] []
  unfold zf_L_receivedCode at hf
  refine zg_aload_n X dL_receivedCode_0 rfl 0 rfl ?_
  refine zg_iload_n X dL_receivedCode_1 rfl 1 rfl ?_
  obtain ⟨⟨bk, bv⟩, hq, hf⟩ := pl_b hf
  refine zg_callX (wr := []) X (zg_runVX X (zt_X7_receivedCode G hst a hb v0 a1 fu (bk, bv) hq) gL_receivedCode_X7_receivedCode rfl zh_X7_receivedCode ⟨rfl, rfl⟩ ⟨Nat.le_of_ble_eq_true rfl, Nat.le_of_ble_eq_true rfl⟩ rfl rfl rfl (Nat.le_of_ble_eq_true rfl) ⟨Nat.le_of_ble_eq_true rfl, Nat.le_of_ble_eq_true rfl⟩ zI1 zT_nd zT_ix rfl dL_receivedCode_2) [] rfl rfl (fun _ h => absurd h List.not_mem_nil) (fun ho _ => ?_) (fun E ho _ => ?_)
  · have h0 : bk = 0 := zxo_n ho
    subst h0
    have hf := pl_t rfl hf
    have hf := Option.some.inj hf
    subst hf
    show zgGd G Z _ _ _ 3 (zTc G a hb v0) _ _ [.int bv]
    exact zg_iret X hF rfl rfl hb rfl rfl (Nat.le_of_ble_eq_true rfl) (Nat.le_of_ble_eq_true rfl) dL_receivedCode_5
  · obtain ⟨h0, rfl⟩ := zxo_1 ho
    obtain ⟨h1, hf⟩ := pl_k (pl_f h0 hf)
    have h1 : bk = 1 := h1
    subst h1
    have hf := Option.some.inj hf
    subst hf
    refine zg_catch (name := "java/lang/IndexOutOfBoundsException") X [] ⟨0, 5, 6, 27⟩ _ htab rfl (fun z hz => nomatch hz) (by decide) (by decide) hl27 (by decide +kernel) (hpc := 6) rfl (fun q => ?_)
    refine zg_astore_n (L' := [(2, .ref q), (0, .ref (a 0)), (1, .int a1)]) X dL_receivedCode_6 rfl (by decide) rfl ?_
    refine zg_bipush (v := (-2)) X dL_receivedCode_7 (by decide) ?_
    show zgGd G Z _ _ _ 3 (zTc G a hb v0) _ _ _
    exact zg_iret X hF rfl rfl hb rfl rfl (Nat.le_of_ble_eq_true rfl) (Nat.le_of_ble_eq_true rfl) dL_receivedCode_9
def zf_L_printed (fu : Nat) (v0 : zTR) (a1 : Int32) : Option Int32 := (zf_X7_printed fu v0 a1).bind fun b => if b.1 = 0 then some b.2 else if b.1 = 1 then some (-2 : Int32) else none
theorem zh_L_printed : yL_printed.cls ≠ "java/lang/invoke/MethodHandle" ∧ yL_printed.cls ≠ "java/lang/invoke/VarHandle" ∧ (parseMethodDescriptor yL_printed.desc).map (fun d => d.parameters.length) = some 2 := by decide +kernel
set_option maxHeartbeats 4000000 in
set_option maxRecDepth 20000 in
theorem zc_L_printed (G : zgG) (hst : G.1.stackTraces = false) (a hb : Nat → Nat) (v0 : zTR) (a1 : Int32) (fu : Nat) (res : Int32) (hf : zf_L_printed fu v0 a1 = some res) : zgCt (σ := Nat → Nat) G yL_printed wsL_printed ({ frames := 7, cells := 1, slots := 6, locals := 111 } : Room) [.ref (a 0), .int a1] (zTc G a hb v0) (fun _ => some (.int res)) (fun h => zTc G a h v0) 1 6 := by
  have hl27 : Cond.classLink RL 27 "java/lang/IndexOutOfBoundsException" ∈ wsL_printed := by decide +kernel
  refine zg_ofW (own := RL) (cc := cL_printed) (nL := 3) (ret := (some .int)) (hh := [(0, 5, 6, 27)]) (by decide +kernel) rfl rfl (Nat.le_of_ble_eq_true rfl) (fun Z X htab hF => ?_)
  show zgGd G Z _ 0 0 3 _ 0 [(0, .ref (a 0)), (1, .int a1)] []
  unfold zf_L_printed at hf
  refine zg_aload_n X dL_printed_0 rfl 0 rfl ?_
  refine zg_iload_n X dL_printed_1 rfl 1 rfl ?_
  obtain ⟨⟨bk, bv⟩, hq, hf⟩ := pl_b hf
  refine zg_callX (wr := []) X (zg_runVX X (zt_X7_printed G hst a hb v0 a1 fu (bk, bv) hq) gL_printed_X7_printed rfl zh_X7_printed ⟨rfl, rfl⟩ ⟨Nat.le_of_ble_eq_true rfl, Nat.le_of_ble_eq_true rfl⟩ rfl rfl rfl (Nat.le_of_ble_eq_true rfl) ⟨Nat.le_of_ble_eq_true rfl, Nat.le_of_ble_eq_true rfl⟩ zI1 zT_nd zT_ix rfl dL_printed_2) [] rfl rfl (fun _ h => absurd h List.not_mem_nil) (fun ho _ => ?_) (fun E ho _ => ?_)
  · have h0 : bk = 0 := zxo_n ho
    subst h0
    have hf := pl_t rfl hf
    have hf := Option.some.inj hf
    subst hf
    show zgGd G Z _ _ _ 3 (zTc G a hb v0) _ _ [.int bv]
    exact zg_iret X hF rfl rfl hb rfl rfl (Nat.le_of_ble_eq_true rfl) (Nat.le_of_ble_eq_true rfl) dL_printed_5
  · obtain ⟨h0, rfl⟩ := zxo_1 ho
    obtain ⟨h1, hf⟩ := pl_k (pl_f h0 hf)
    have h1 : bk = 1 := h1
    subst h1
    have hf := Option.some.inj hf
    subst hf
    refine zg_catch (name := "java/lang/IndexOutOfBoundsException") X [] ⟨0, 5, 6, 27⟩ _ htab rfl (fun z hz => nomatch hz) (by decide) (by decide) hl27 (by decide +kernel) (hpc := 6) rfl (fun q => ?_)
    refine zg_astore_n (L' := [(2, .ref q), (0, .ref (a 0)), (1, .int a1)]) X dL_printed_6 rfl (by decide) rfl ?_
    refine zg_bipush (v := (-2)) X dL_printed_7 (by decide) ?_
    show zgGd G Z _ _ _ 3 (zTc G a hb v0) _ _ _
    exact zg_iret X hF rfl rfl hb rfl rfl (Nat.le_of_ble_eq_true rfl) (Nat.le_of_ble_eq_true rfl) dL_printed_9
def zf_L_segmentLength (fu : Nat) (v0 : zTR) (a1 : Int32) : Option Int32 := (zf_X7_segmentLength fu v0 a1).bind fun b => if b.1 = 0 then some b.2 else if b.1 = 1 then some (-2 : Int32) else none
theorem zh_L_segmentLength : yL_segmentLength.cls ≠ "java/lang/invoke/MethodHandle" ∧ yL_segmentLength.cls ≠ "java/lang/invoke/VarHandle" ∧ (parseMethodDescriptor yL_segmentLength.desc).map (fun d => d.parameters.length) = some 2 := by decide +kernel
set_option maxHeartbeats 4000000 in
set_option maxRecDepth 20000 in
theorem zc_L_segmentLength (G : zgG) (hst : G.1.stackTraces = false) (a hb : Nat → Nat) (v0 : zTR) (a1 : Int32) (fu : Nat) (res : Int32) (hf : zf_L_segmentLength fu v0 a1 = some res) : zgCt (σ := Nat → Nat) G yL_segmentLength wsL_segmentLength ({ frames := 7, cells := 1, slots := 6, locals := 111 } : Room) [.ref (a 0), .int a1] (zTc G a hb v0) (fun _ => some (.int res)) (fun h => zTc G a h v0) 1 6 := by
  have hl27 : Cond.classLink RL 27 "java/lang/IndexOutOfBoundsException" ∈ wsL_segmentLength := by decide +kernel
  refine zg_ofW (own := RL) (cc := cL_segmentLength) (nL := 3) (ret := (some .int)) (hh := [(0, 5, 6, 27)]) (by decide +kernel) rfl rfl (Nat.le_of_ble_eq_true rfl) (fun Z X htab hF => ?_)
  show zgGd G Z _ 0 0 3 _ 0 [(0, .ref (a 0)), (1, .int a1)] []
  unfold zf_L_segmentLength at hf
  refine zg_aload_n X dL_segmentLength_0 rfl 0 rfl ?_
  refine zg_iload_n X dL_segmentLength_1 rfl 1 rfl ?_
  obtain ⟨⟨bk, bv⟩, hq, hf⟩ := pl_b hf
  refine zg_callX (wr := []) X (zg_runVX X (zt_X7_segmentLength G hst a hb v0 a1 fu (bk, bv) hq) gL_segmentLength_X7_segmentLength rfl zh_X7_segmentLength ⟨rfl, rfl⟩ ⟨Nat.le_of_ble_eq_true rfl, Nat.le_of_ble_eq_true rfl⟩ rfl rfl rfl (Nat.le_of_ble_eq_true rfl) ⟨Nat.le_of_ble_eq_true rfl, Nat.le_of_ble_eq_true rfl⟩ zI1 zT_nd zT_ix rfl dL_segmentLength_2) [] rfl rfl (fun _ h => absurd h List.not_mem_nil) (fun ho _ => ?_) (fun E ho _ => ?_)
  · have h0 : bk = 0 := zxo_n ho
    subst h0
    have hf := pl_t rfl hf
    have hf := Option.some.inj hf
    subst hf
    show zgGd G Z _ _ _ 3 (zTc G a hb v0) _ _ [.int bv]
    exact zg_iret X hF rfl rfl hb rfl rfl (Nat.le_of_ble_eq_true rfl) (Nat.le_of_ble_eq_true rfl) dL_segmentLength_5
  · obtain ⟨h0, rfl⟩ := zxo_1 ho
    obtain ⟨h1, hf⟩ := pl_k (pl_f h0 hf)
    have h1 : bk = 1 := h1
    subst h1
    have hf := Option.some.inj hf
    subst hf
    refine zg_catch (name := "java/lang/IndexOutOfBoundsException") X [] ⟨0, 5, 6, 27⟩ _ htab rfl (fun z hz => nomatch hz) (by decide) (by decide) hl27 (by decide +kernel) (hpc := 6) rfl (fun q => ?_)
    refine zg_astore_n (L' := [(2, .ref q), (0, .ref (a 0)), (1, .int a1)]) X dL_segmentLength_6 rfl (by decide) rfl ?_
    refine zg_bipush (v := (-2)) X dL_segmentLength_7 (by decide) ?_
    show zgGd G Z _ _ _ 3 (zTc G a hb v0) _ _ _
    exact zg_iret X hF rfl rfl hb rfl rfl (Nat.le_of_ble_eq_true rfl) (Nat.le_of_ble_eq_true rfl) dL_segmentLength_9
def zf_L_segmentKind (fu : Nat) (v0 : zTR) (a1 : Int32) : Option Int32 := (zf_X7_segmentKind fu v0 a1).bind fun b => if b.1 = 0 then some b.2 else if b.1 = 1 then some (-2 : Int32) else none
theorem zh_L_segmentKind : yL_segmentKind.cls ≠ "java/lang/invoke/MethodHandle" ∧ yL_segmentKind.cls ≠ "java/lang/invoke/VarHandle" ∧ (parseMethodDescriptor yL_segmentKind.desc).map (fun d => d.parameters.length) = some 2 := by decide +kernel
set_option maxHeartbeats 4000000 in
set_option maxRecDepth 20000 in
theorem zc_L_segmentKind (G : zgG) (hst : G.1.stackTraces = false) (a hb : Nat → Nat) (v0 : zTR) (a1 : Int32) (fu : Nat) (res : Int32) (hf : zf_L_segmentKind fu v0 a1 = some res) : zgCt (σ := Nat → Nat) G yL_segmentKind wsL_segmentKind ({ frames := 7, cells := 1, slots := 6, locals := 111 } : Room) [.ref (a 0), .int a1] (zTc G a hb v0) (fun _ => some (.int res)) (fun h => zTc G a h v0) 1 6 := by
  have hl27 : Cond.classLink RL 27 "java/lang/IndexOutOfBoundsException" ∈ wsL_segmentKind := by decide +kernel
  refine zg_ofW (own := RL) (cc := cL_segmentKind) (nL := 3) (ret := (some .int)) (hh := [(0, 5, 6, 27)]) (by decide +kernel) rfl rfl (Nat.le_of_ble_eq_true rfl) (fun Z X htab hF => ?_)
  show zgGd G Z _ 0 0 3 _ 0 [(0, .ref (a 0)), (1, .int a1)] []
  unfold zf_L_segmentKind at hf
  refine zg_aload_n X dL_segmentKind_0 rfl 0 rfl ?_
  refine zg_iload_n X dL_segmentKind_1 rfl 1 rfl ?_
  obtain ⟨⟨bk, bv⟩, hq, hf⟩ := pl_b hf
  refine zg_callX (wr := []) X (zg_runVX X (zt_X7_segmentKind G hst a hb v0 a1 fu (bk, bv) hq) gL_segmentKind_X7_segmentKind rfl zh_X7_segmentKind ⟨rfl, rfl⟩ ⟨Nat.le_of_ble_eq_true rfl, Nat.le_of_ble_eq_true rfl⟩ rfl rfl rfl (Nat.le_of_ble_eq_true rfl) ⟨Nat.le_of_ble_eq_true rfl, Nat.le_of_ble_eq_true rfl⟩ zI1 zT_nd zT_ix rfl dL_segmentKind_2) [] rfl rfl (fun _ h => absurd h List.not_mem_nil) (fun ho _ => ?_) (fun E ho _ => ?_)
  · have h0 : bk = 0 := zxo_n ho
    subst h0
    have hf := pl_t rfl hf
    have hf := Option.some.inj hf
    subst hf
    show zgGd G Z _ _ _ 3 (zTc G a hb v0) _ _ [.int bv]
    exact zg_iret X hF rfl rfl hb rfl rfl (Nat.le_of_ble_eq_true rfl) (Nat.le_of_ble_eq_true rfl) dL_segmentKind_5
  · obtain ⟨h0, rfl⟩ := zxo_1 ho
    obtain ⟨h1, hf⟩ := pl_k (pl_f h0 hf)
    have h1 : bk = 1 := h1
    subst h1
    have hf := Option.some.inj hf
    subst hf
    refine zg_catch (name := "java/lang/IndexOutOfBoundsException") X [] ⟨0, 5, 6, 27⟩ _ htab rfl (fun z hz => nomatch hz) (by decide) (by decide) hl27 (by decide +kernel) (hpc := 6) rfl (fun q => ?_)
    refine zg_astore_n (L' := [(2, .ref q), (0, .ref (a 0)), (1, .int a1)]) X dL_segmentKind_6 rfl (by decide) rfl ?_
    refine zg_bipush (v := (-2)) X dL_segmentKind_7 (by decide) ?_
    show zgGd G Z _ _ _ 3 (zTc G a hb v0) _ _ _
    exact zg_iret X hF rfl rfl hb rfl rfl (Nat.le_of_ble_eq_true rfl) (Nat.le_of_ble_eq_true rfl) dL_segmentKind_9
def zf_L_wordLetter (fu : Nat) (v0 : zTR) (a1 : Int32) (a2 : Int32) : Option Int32 := (zf_X7_wordLetter fu v0 a1 a2).bind fun b => if b.1 = 0 then some b.2 else if b.1 = 1 then some (-2 : Int32) else none
theorem zh_L_wordLetter : yL_wordLetter.cls ≠ "java/lang/invoke/MethodHandle" ∧ yL_wordLetter.cls ≠ "java/lang/invoke/VarHandle" ∧ (parseMethodDescriptor yL_wordLetter.desc).map (fun d => d.parameters.length) = some 3 := by decide +kernel
set_option maxHeartbeats 4000000 in
set_option maxRecDepth 20000 in
theorem zc_L_wordLetter (G : zgG) (hst : G.1.stackTraces = false) (a hb : Nat → Nat) (v0 : zTR) (a1 : Int32) (a2 : Int32) (fu : Nat) (res : Int32) (hf : zf_L_wordLetter fu v0 a1 a2 = some res) : zgCt (σ := Nat → Nat) G yL_wordLetter wsL_wordLetter ({ frames := 7, cells := 1, slots := 6, locals := 130 } : Room) [.ref (a 0), .int a1, .int a2] (zTc G a hb v0) (fun _ => some (.int res)) (fun h => zTc G a h v0) 1 6 := by
  have hl27 : Cond.classLink RL 27 "java/lang/IndexOutOfBoundsException" ∈ wsL_wordLetter := by decide +kernel
  refine zg_ofW (own := RL) (cc := cL_wordLetter) (nL := 4) (ret := (some .int)) (hh := [(0, 6, 7, 27)]) (by decide +kernel) rfl rfl (Nat.le_of_ble_eq_true rfl) (fun Z X htab hF => ?_)
  show zgGd G Z _ 0 0 4 _ 0 [(0, .ref (a 0)), (1, .int a1), (2, .int a2)] []
  unfold zf_L_wordLetter at hf
  refine zg_aload_n X dL_wordLetter_0 rfl 0 rfl ?_
  refine zg_iload_n X dL_wordLetter_1 rfl 1 rfl ?_
  refine zg_iload_n X dL_wordLetter_2 rfl 2 rfl ?_
  obtain ⟨⟨bk, bv⟩, hq, hf⟩ := pl_b hf
  refine zg_callX (wr := []) X (zg_runVX X (zt_X7_wordLetter G hst a hb v0 a1 a2 fu (bk, bv) hq) gL_wordLetter_X7_wordLetter rfl zh_X7_wordLetter ⟨rfl, rfl⟩ ⟨Nat.le_of_ble_eq_true rfl, Nat.le_of_ble_eq_true rfl⟩ rfl rfl rfl (Nat.le_of_ble_eq_true rfl) ⟨Nat.le_of_ble_eq_true rfl, Nat.le_of_ble_eq_true rfl⟩ zI1 zT_nd zT_ix rfl dL_wordLetter_3) [] rfl rfl (fun _ h => absurd h List.not_mem_nil) (fun ho _ => ?_) (fun E ho _ => ?_)
  · have h0 : bk = 0 := zxo_n ho
    subst h0
    have hf := pl_t rfl hf
    have hf := Option.some.inj hf
    subst hf
    show zgGd G Z _ _ _ 4 (zTc G a hb v0) _ _ [.int bv]
    exact zg_iret X hF rfl rfl hb rfl rfl (Nat.le_of_ble_eq_true rfl) (Nat.le_of_ble_eq_true rfl) dL_wordLetter_6
  · obtain ⟨h0, rfl⟩ := zxo_1 ho
    obtain ⟨h1, hf⟩ := pl_k (pl_f h0 hf)
    have h1 : bk = 1 := h1
    subst h1
    have hf := Option.some.inj hf
    subst hf
    refine zg_catch (name := "java/lang/IndexOutOfBoundsException") X [] ⟨0, 6, 7, 27⟩ _ htab rfl (fun z hz => nomatch hz) (by decide) (by decide) hl27 (by decide +kernel) (hpc := 7) rfl (fun q => ?_)
    refine zg_astore_n (L' := [(3, .ref q), (0, .ref (a 0)), (1, .int a1), (2, .int a2)]) X dL_wordLetter_7 rfl (by decide) rfl ?_
    refine zg_bipush (v := (-2)) X dL_wordLetter_8 (by decide) ?_
    show zgGd G Z _ _ _ 4 (zTc G a hb v0) _ _ _
    exact zg_iret X hF rfl rfl hb rfl rfl (Nat.le_of_ble_eq_true rfl) (Nat.le_of_ble_eq_true rfl) dL_wordLetter_10
def zf_L_uses (fu : Nat) (v0 : zTR) (a1 : Int32) : Option Int32 := (zf_X7_uses fu v0 a1).bind fun b => if b.1 = 0 then some b.2 else if b.1 = 1 then some (-2 : Int32) else none
theorem zh_L_uses : yL_uses.cls ≠ "java/lang/invoke/MethodHandle" ∧ yL_uses.cls ≠ "java/lang/invoke/VarHandle" ∧ (parseMethodDescriptor yL_uses.desc).map (fun d => d.parameters.length) = some 2 := by decide +kernel
set_option maxHeartbeats 4000000 in
set_option maxRecDepth 20000 in
theorem zc_L_uses (G : zgG) (hst : G.1.stackTraces = false) (a hb : Nat → Nat) (v0 : zTR) (a1 : Int32) (fu : Nat) (res : Int32) (hf : zf_L_uses fu v0 a1 = some res) : zgCt (σ := Nat → Nat) G yL_uses wsL_uses ({ frames := 7, cells := 1, slots := 6, locals := 111 } : Room) [.ref (a 0), .int a1] (zTc G a hb v0) (fun _ => some (.int res)) (fun h => zTc G a h v0) 1 6 := by
  have hl27 : Cond.classLink RL 27 "java/lang/IndexOutOfBoundsException" ∈ wsL_uses := by decide +kernel
  refine zg_ofW (own := RL) (cc := cL_uses) (nL := 3) (ret := (some .int)) (hh := [(0, 5, 6, 27)]) (by decide +kernel) rfl rfl (Nat.le_of_ble_eq_true rfl) (fun Z X htab hF => ?_)
  show zgGd G Z _ 0 0 3 _ 0 [(0, .ref (a 0)), (1, .int a1)] []
  unfold zf_L_uses at hf
  refine zg_aload_n X dL_uses_0 rfl 0 rfl ?_
  refine zg_iload_n X dL_uses_1 rfl 1 rfl ?_
  obtain ⟨⟨bk, bv⟩, hq, hf⟩ := pl_b hf
  refine zg_callX (wr := []) X (zg_runVX X (zt_X7_uses G hst a hb v0 a1 fu (bk, bv) hq) gL_uses_X7_uses rfl zh_X7_uses ⟨rfl, rfl⟩ ⟨Nat.le_of_ble_eq_true rfl, Nat.le_of_ble_eq_true rfl⟩ rfl rfl rfl (Nat.le_of_ble_eq_true rfl) ⟨Nat.le_of_ble_eq_true rfl, Nat.le_of_ble_eq_true rfl⟩ zI1 zT_nd zT_ix rfl dL_uses_2) [] rfl rfl (fun _ h => absurd h List.not_mem_nil) (fun ho _ => ?_) (fun E ho _ => ?_)
  · have h0 : bk = 0 := zxo_n ho
    subst h0
    have hf := pl_t rfl hf
    have hf := Option.some.inj hf
    subst hf
    show zgGd G Z _ _ _ 3 (zTc G a hb v0) _ _ [.int bv]
    exact zg_iret X hF rfl rfl hb rfl rfl (Nat.le_of_ble_eq_true rfl) (Nat.le_of_ble_eq_true rfl) dL_uses_5
  · obtain ⟨h0, rfl⟩ := zxo_1 ho
    obtain ⟨h1, hf⟩ := pl_k (pl_f h0 hf)
    have h1 : bk = 1 := h1
    subst h1
    have hf := Option.some.inj hf
    subst hf
    refine zg_catch (name := "java/lang/IndexOutOfBoundsException") X [] ⟨0, 5, 6, 27⟩ _ htab rfl (fun z hz => nomatch hz) (by decide) (by decide) hl27 (by decide +kernel) (hpc := 6) rfl (fun q => ?_)
    refine zg_astore_n (L' := [(2, .ref q), (0, .ref (a 0)), (1, .int a1)]) X dL_uses_6 rfl (by decide) rfl ?_
    refine zg_bipush (v := (-2)) X dL_uses_7 (by decide) ?_
    show zgGd G Z _ _ _ 3 (zTc G a hb v0) _ _ _
    exact zg_iret X hF rfl rfl hb rfl rfl (Nat.le_of_ble_eq_true rfl) (Nat.le_of_ble_eq_true rfl) dL_uses_9
def zf_L_undo (fu : Nat) (v0 : zTR) : Option (Int32 × zTR) := (zf_X7_undo fu v0).bind fun b => if b.1 = 0 then some (b.2.1, b.2.2) else if b.1 = 1 then some ((-2 : Int32), b.2.2) else none
theorem zh_L_undo : yL_undo.cls ≠ "java/lang/invoke/MethodHandle" ∧ yL_undo.cls ≠ "java/lang/invoke/VarHandle" ∧ (parseMethodDescriptor yL_undo.desc).map (fun d => d.parameters.length) = some 1 := by decide +kernel
set_option maxHeartbeats 4000000 in
set_option maxRecDepth 20000 in
theorem zc_L_undo (G : zgG) (hst : G.1.stackTraces = false) (a hb : Nat → Nat) (v0 : zTR) (fu : Nat) (res : (Int32 × zTR)) (hf : zf_L_undo fu v0 = some res) : zgCt (σ := Nat → Nat) G yL_undo wsL_undo ({ frames := 8, cells := 1, slots := 6, locals := 179 } : Room) [.ref (a 0)] (zTc G a hb v0) (fun _ => some (.int res.1)) (fun h => zTc G a h res.2) 1 6 := by
  have hl17 : Cond.classLink RL 17 "java/lang/IllegalStateException" ∈ wsL_undo := by decide +kernel
  refine zg_ofW (own := RL) (cc := cL_undo) (nL := 2) (ret := (some .int)) (hh := [(0, 4, 5, 17)]) (by decide +kernel) rfl rfl (Nat.le_of_ble_eq_true rfl) (fun Z X htab hF => ?_)
  show zgGd G Z _ 0 0 2 _ 0 [(0, .ref (a 0))] []
  unfold zf_L_undo at hf
  refine zg_aload_n X dL_undo_0 rfl 0 rfl ?_
  obtain ⟨⟨bk, bv, bs⟩, hq, hf⟩ := pl_b hf
  refine zg_callX (wr := []) X (zg_runVX X (zt_X7_undo G hst a hb v0 fu (bk, bv, bs) hq) gL_undo_X7_undo rfl zh_X7_undo ⟨rfl, rfl⟩ ⟨Nat.le_of_ble_eq_true rfl, Nat.le_of_ble_eq_true rfl⟩ rfl rfl rfl (Nat.le_of_ble_eq_true rfl) ⟨Nat.le_of_ble_eq_true rfl, Nat.le_of_ble_eq_true rfl⟩ zI1 zT_nd zT_ix rfl dL_undo_1) [] rfl rfl (fun _ h => absurd h List.not_mem_nil) (fun ho _ => ?_) (fun E ho _ => ?_)
  · have h0 : bk = 0 := zxo_n ho
    subst h0
    have hf := pl_t rfl hf
    have hf := Option.some.inj hf
    subst hf
    show zgGd G Z _ _ _ 2 (zTc G a hb bs) _ _ [.int bv]
    exact zg_iret X hF rfl rfl hb rfl rfl (Nat.le_of_ble_eq_true rfl) (Nat.le_of_ble_eq_true rfl) dL_undo_4
  · obtain ⟨h0, rfl⟩ := zxo_1 ho
    obtain ⟨h1, hf⟩ := pl_k (pl_f h0 hf)
    have h1 : bk = 1 := h1
    subst h1
    have hf := Option.some.inj hf
    subst hf
    refine zg_catch (name := "java/lang/IllegalStateException") X [] ⟨0, 4, 5, 17⟩ _ htab rfl (fun z hz => nomatch hz) (by decide) (by decide) hl17 (by decide +kernel) (hpc := 5) rfl (fun q => ?_)
    refine zg_astore_n (L' := [(1, .ref q), (0, .ref (a 0))]) X dL_undo_5 rfl (by decide) rfl ?_
    refine zg_bipush (v := (-2)) X dL_undo_6 (by decide) ?_
    show zgGd G Z _ _ _ 2 (zTc G a hb bs) _ _ _
    exact zg_iret X hF rfl rfl hb rfl rfl (Nat.le_of_ble_eq_true rfl) (Nat.le_of_ble_eq_true rfl) dL_undo_8
def zf_L_doubtfulWith (fu : Nat) (v0 : zTR) (a1 : Int32) (a2 : Int32) : Option Int32 := (zf_X7_doubtfulWith fu v0 a1 a2).bind fun b => if b.1 = 0 then some b.2 else if b.1 = 1 then some (-3 : Int32) else if b.1 = 2 then some (-2 : Int32) else none
theorem zh_L_doubtfulWith : yL_doubtfulWith.cls ≠ "java/lang/invoke/MethodHandle" ∧ yL_doubtfulWith.cls ≠ "java/lang/invoke/VarHandle" ∧ (parseMethodDescriptor yL_doubtfulWith.desc).map (fun d => d.parameters.length) = some 3 := by decide +kernel
set_option maxHeartbeats 4000000 in
set_option maxRecDepth 20000 in
theorem zc_L_doubtfulWith (G : zgG) (hst : G.1.stackTraces = false) (a hb : Nat → Nat) (v0 : zTR) (a1 : Int32) (a2 : Int32) (fu : Nat) (res : Int32) (hf : zf_L_doubtfulWith fu v0 a1 a2 = some res) : zgCt (σ := Nat → Nat) G yL_doubtfulWith wsL_doubtfulWith ({ frames := 7, cells := 1, slots := 6, locals := 161 } : Room) [.ref (a 0), .int a1, .int a2] (zTc G a hb v0) (fun _ => some (.int res)) (fun h => zTc G a h v0) 1 6 := by
  have hl27 : Cond.classLink RL 27 "java/lang/IndexOutOfBoundsException" ∈ wsL_doubtfulWith := by decide +kernel
  have hl15 : Cond.classLink RL 15 "java/lang/IllegalArgumentException" ∈ wsL_doubtfulWith := by decide +kernel
  refine zg_ofW (own := RL) (cc := cL_doubtfulWith) (nL := 4) (ret := (some .int)) (hh := [(0, 6, 7, 27), (0, 6, 11, 15)]) (by decide +kernel) rfl rfl (Nat.le_of_ble_eq_true rfl) (fun Z X htab hF => ?_)
  show zgGd G Z _ 0 0 4 _ 0 [(0, .ref (a 0)), (1, .int a1), (2, .int a2)] []
  unfold zf_L_doubtfulWith at hf
  refine zg_aload_n X dL_doubtfulWith_0 rfl 0 rfl ?_
  refine zg_iload_n X dL_doubtfulWith_1 rfl 1 rfl ?_
  refine zg_iload_n X dL_doubtfulWith_2 rfl 2 rfl ?_
  obtain ⟨⟨bk, bv⟩, hq, hf⟩ := pl_b hf
  refine zg_callX (wr := []) X (zg_runVX X (zt_X7_doubtfulWith G hst a hb v0 a1 a2 fu (bk, bv) hq) gL_doubtfulWith_X7_doubtfulWith rfl zh_X7_doubtfulWith ⟨rfl, rfl⟩ ⟨Nat.le_of_ble_eq_true rfl, Nat.le_of_ble_eq_true rfl⟩ rfl rfl rfl (Nat.le_of_ble_eq_true rfl) ⟨Nat.le_of_ble_eq_true rfl, Nat.le_of_ble_eq_true rfl⟩ zI1 zT_nd zT_ix rfl dL_doubtfulWith_3) [] rfl rfl (fun _ h => absurd h List.not_mem_nil) (fun ho _ => ?_) (fun E ho _ => ?_)
  · have h0 : bk = 0 := zxo_n ho
    subst h0
    have hf := pl_t rfl hf
    have hf := Option.some.inj hf
    subst hf
    show zgGd G Z _ _ _ 4 (zTc G a hb v0) _ _ [.int bv]
    exact zg_iret X hF rfl rfl hb rfl rfl (Nat.le_of_ble_eq_true rfl) (Nat.le_of_ble_eq_true rfl) dL_doubtfulWith_6
  · rcases zxo_2 ho with ⟨h1, rfl⟩ | ⟨h0, h1, rfl⟩
    · have h1 : bk = 1 := h1
      subst h1
      have hf := pl_t rfl (pl_f (show ¬ ((1 : Int32) = 0) by decide) hf)
      have hf := Option.some.inj hf
      subst hf
      refine zg_catch (name := "java/lang/IndexOutOfBoundsException") X [] ⟨0, 6, 7, 27⟩ _ htab rfl (fun z hz => nomatch hz) (by decide) (by decide) hl27 (by decide +kernel) (hpc := 7) rfl (fun q => ?_)
      refine zg_astore_n (L' := [(3, .ref q), (0, .ref (a 0)), (1, .int a1), (2, .int a2)]) X dL_doubtfulWith_7 rfl (by decide) rfl ?_
      refine zg_bipush (v := (-3)) X dL_doubtfulWith_8 (by decide) ?_
      show zgGd G Z _ _ _ 4 (zTc G a hb v0) _ _ _
      exact zg_iret X hF rfl rfl hb rfl rfl (Nat.le_of_ble_eq_true rfl) (Nat.le_of_ble_eq_true rfl) dL_doubtfulWith_10
    · obtain ⟨h2, hf⟩ := pl_k (pl_f h1 (pl_f h0 hf))
      have h2 : bk = 2 := h2
      subst h2
      have hf := Option.some.inj hf
      subst hf
      refine zg_catch (name := "java/lang/IllegalArgumentException") X [⟨0, 6, 7, 27⟩] ⟨0, 6, 11, 15⟩ _ htab rfl (fun z hz => by rw [List.mem_singleton.mp hz]; exact Or.inr ⟨by decide, _, hl27, X.ex.nc2⟩) (by decide) (by decide) hl15 (by decide +kernel) (hpc := 11) rfl (fun q => ?_)
      refine zg_astore_n (L' := [(3, .ref q), (0, .ref (a 0)), (1, .int a1), (2, .int a2)]) X dL_doubtfulWith_11 rfl (by decide) rfl ?_
      refine zg_bipush (v := (-2)) X dL_doubtfulWith_12 (by decide) ?_
      show zgGd G Z _ _ _ 4 (zTc G a hb v0) _ _ _
      exact zg_iret X hF rfl rfl hb rfl rfl (Nat.le_of_ble_eq_true rfl) (Nat.le_of_ble_eq_true rfl) dL_doubtfulWith_14
