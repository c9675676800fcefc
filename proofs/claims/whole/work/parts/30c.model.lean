theorem zh_X8_decodes : yX8_decodes.cls = RX8 ∧ yX8_decodes.cls ≠ "java/lang/invoke/MethodHandle" ∧ yX8_decodes.cls ≠ "java/lang/invoke/VarHandle" ∧ (parseMethodDescriptor yX8_decodes.desc).map (fun d => d.parameters.length) = some 2 := by decide +kernel
set_option maxHeartbeats 8000000 in
set_option maxRecDepth 100000 in
theorem zc_X8_decodes (G : zgG) (q0 q1 q2 q3 q4 q5 q6 q7 q8 : Nat) (v0 : zModel) (a1 : Int32) (a2 : Int32) (fu : Nat) (res : zModel) (hf : zf_X8_decodes fu v0 a1 a2 = some res) : zgCt G yX8_decodes wsX8_decodes ({ frames := 3, cells := 0, slots := 0, locals := 74 } : Room) [.ref q0, .int a1, .int a2] [(q0, .inr (7, [.ref q1, .ref q2, .int v0.2.2.1, .ref q3, .int v0.2.2.2.2.1, .int v0.2.2.2.2.2.1, .ref q4, .int v0.2.2.2.2.2.2.2.1, .ref q5, .ref q6, .ref q7, .int v0.2.2.2.2.2.2.2.2.2.2.2.1, .int v0.2.2.2.2.2.2.2.2.2.2.2.2.1, .int v0.2.2.2.2.2.2.2.2.2.2.2.2.2.1, .int v0.2.2.2.2.2.2.2.2.2.2.2.2.2.2.1, .ref q8, .int v0.2.2.2.2.2.2.2.2.2.2.2.2.2.2.2.2])), (q1, .inl (G.2.2.1, 946, .inl v0.1)), (q2, .inl (G.2.2.1, 5676, .inl v0.2.1)), (q3, .inl (G.2.2.1, 60, .inl v0.2.2.2.1)), (q4, .inl (G.2.2.1, 201, .inl v0.2.2.2.2.2.2.1)), (q5, .inl (G.2.2.1, 201, .inl v0.2.2.2.2.2.2.2.2.1)), (q6, .inl (G.2.2.1, 201, .inl v0.2.2.2.2.2.2.2.2.2.1)), (q7, .inl (G.2.2.1, 201, .inl v0.2.2.2.2.2.2.2.2.2.2.1)), (q8, .inl (G.2.2.1, 201, .inl v0.2.2.2.2.2.2.2.2.2.2.2.2.2.2.2.1))] (fun _ : Unit => none) (fun _ => [(q0, .inr (7, [.ref q1, .ref q2, .int res.2.2.1, .ref q3, .int res.2.2.2.2.1, .int res.2.2.2.2.2.1, .ref q4, .int res.2.2.2.2.2.2.2.1, .ref q5, .ref q6, .ref q7, .int res.2.2.2.2.2.2.2.2.2.2.2.1, .int res.2.2.2.2.2.2.2.2.2.2.2.2.1, .int res.2.2.2.2.2.2.2.2.2.2.2.2.2.1, .int res.2.2.2.2.2.2.2.2.2.2.2.2.2.2.1, .ref q8, .int res.2.2.2.2.2.2.2.2.2.2.2.2.2.2.2.2])), (q1, .inl (G.2.2.1, 946, .inl res.1)), (q2, .inl (G.2.2.1, 5676, .inl res.2.1)), (q3, .inl (G.2.2.1, 60, .inl res.2.2.2.1)), (q4, .inl (G.2.2.1, 201, .inl res.2.2.2.2.2.2.1)), (q5, .inl (G.2.2.1, 201, .inl res.2.2.2.2.2.2.2.2.1)), (q6, .inl (G.2.2.1, 201, .inl res.2.2.2.2.2.2.2.2.2.1)), (q7, .inl (G.2.2.1, 201, .inl res.2.2.2.2.2.2.2.2.2.2.1)), (q8, .inl (G.2.2.1, 201, .inl res.2.2.2.2.2.2.2.2.2.2.2.2.2.2.2.1))]) 0 0 := by
  have hw0 : Cond.fieldLink RX8 34 "TelexReceiverModel" "many" "I" ∈ wsX8_decodes := by decide +kernel
  have hw1 : Cond.fieldLink RX8 7 "TelexReceiverModel" "s" "[I" ∈ wsX8_decodes := by decide +kernel
  have hw2 : Cond.fieldLink RX8 88 "TelexReceiverModel" "printed" "I" ∈ wsX8_decodes := by decide +kernel
  have hw3 : Cond.fieldLink RX8 97 "TelexReceiverModel" "segments" "I" ∈ wsX8_decodes := by decide +kernel
  have hw4 : Cond.fieldLink RX8 107 "TelexReceiverModel" "bells" "I" ∈ wsX8_decodes := by decide +kernel
  have hw5 : Cond.fieldLink RX8 110 "TelexReceiverModel" "questions" "I" ∈ wsX8_decodes := by decide +kernel
  have hw6 : Cond.fieldLink RX8 91 "TelexReceiverModel" "shift" "I" ∈ wsX8_decodes := by decide +kernel
  have hw7 : Cond.fieldLink RX8 31 "TelexReceiverModel" "codes" "[I" ∈ wsX8_decodes := by decide +kernel
  have hiX8 : ∀ w ∈ u_ws RX8 TX8 17, w ∈ wsX8_decodes := by decide +kernel
  refine zg_of (own := RX8) (cc := cX8_decodes) (nL := 5) (ret := none) (by decide +kernel) rfl rfl (Nat.le_of_ble_eq_true rfl) (fun Z X hF => ?_)
  show zgGd G Z _ 0 0 5 _ 0 [(0, .ref q0), (1, .int a1), (2, .int a2)] []
  have hL118 : ∀ (n : Nat) (y3 : Int32) (w0 : (Nat → Int32)) (w1 : (Nat → Int32)) (w2 : Int32) (w3 : (Nat → Int32)) (w4 : Int32) (w5 : Int32) (w6 : (Nat → Int32)) (w7 : Int32) (w8 : (Nat → Int32)) (w9 : (Nat → Int32)) (w10 : (Nat → Int32)) (w11 : Int32) (w12 : Int32) (w13 : Int32) (w14 : Int32) (w15 : (Nat → Int32)) (w16 : Int32), zf_X8_decodes_L118 fu v0 n y3 w0 w1 w2 w3 w4 w5 w6 w7 w8 w9 w10 w11 w12 w13 w14 w15 w16 = some res → zgGd G Z ({ frames := 3, cells := 0, slots := 0, locals := 74 } : Room) 0 0 5 [(q0, .inr (7, [.ref q1, .ref q2, .int w2, .ref q3, .int w4, .int w5, .ref q4, .int w7, .ref q5, .ref q6, .ref q7, .int w11, .int w12, .int w13, .int w14, .ref q8, .int w16])), (q1, .inl (G.2.2.1, 946, .inl w0)), (q2, .inl (G.2.2.1, 5676, .inl w1)), (q3, .inl (G.2.2.1, 60, .inl w3)), (q4, .inl (G.2.2.1, 201, .inl w6)), (q5, .inl (G.2.2.1, 201, .inl w8)), (q6, .inl (G.2.2.1, 201, .inl w9)), (q7, .inl (G.2.2.1, 201, .inl w10)), (q8, .inl (G.2.2.1, 201, .inl w15))] 118 [(0, .ref q0), (3, .int y3)] [] := by
    intro n
    induction n with
    | zero =>
      intro y3 w0 w1 w2 w3 w4 w5 w6 w7 w8 w9 w10 w11 w12 w13 w14 w15 w16 hf
      rw [zf_X8_decodes_L118] at hf
      cases hf
    | succ n118 ih118 =>
      have hb295 : ∀ (y3 : Int32) (w0 : (Nat → Int32)) (w1 : (Nat → Int32)) (w2 : Int32) (w3 : (Nat → Int32)) (w4 : Int32) (w5 : Int32) (w6 : (Nat → Int32)) (w7 : Int32) (w8 : (Nat → Int32)) (w9 : (Nat → Int32)) (w10 : (Nat → Int32)) (w11 : Int32) (w12 : Int32) (w13 : Int32) (w14 : Int32) (w15 : (Nat → Int32)) (w16 : Int32), zf_X8_decodes_b295 fu v0 (zf_X8_decodes_L118 fu v0 n118) y3 w0 w1 w2 w3 w4 w5 w6 w7 w8 w9 w10 w11 w12 w13 w14 w15 w16 = some res → zgGd G Z ({ frames := 3, cells := 0, slots := 0, locals := 74 } : Room) 0 0 5 [(q0, .inr (7, [.ref q1, .ref q2, .int w2, .ref q3, .int w4, .int w5, .ref q4, .int w7, .ref q5, .ref q6, .ref q7, .int w11, .int w12, .int w13, .int w14, .ref q8, .int w16])), (q1, .inl (G.2.2.1, 946, .inl w0)), (q2, .inl (G.2.2.1, 5676, .inl w1)), (q3, .inl (G.2.2.1, 60, .inl w3)), (q4, .inl (G.2.2.1, 201, .inl w6)), (q5, .inl (G.2.2.1, 201, .inl w8)), (q6, .inl (G.2.2.1, 201, .inl w9)), (q7, .inl (G.2.2.1, 201, .inl w10)), (q8, .inl (G.2.2.1, 201, .inl w15))] 295 [(0, .ref q0), (3, .int y3)] [] := by
        intro y3 w0 w1 w2 w3 w4 w5 w6 w7 w8 w9 w10 w11 w12 w13 w14 w15 w16 hf
        unfold zf_X8_decodes_b295 at hf
        refine zg_goto (tgt := 118) X dX8_decodes_295 (by decide) ?_
        exact ih118 y3 w0 w1 w2 w3 w4 w5 w6 w7 w8 w9 w10 w11 w12 w13 w14 w15 w16 hf
      have hb289 : ∀ (y3 : Int32) (z1 : Int32) (w0 : (Nat → Int32)) (w1 : (Nat → Int32)) (w2 : Int32) (w3 : (Nat → Int32)) (w4 : Int32) (w5 : Int32) (w6 : (Nat → Int32)) (w7 : Int32) (w8 : (Nat → Int32)) (w9 : (Nat → Int32)) (w10 : (Nat → Int32)) (w11 : Int32) (w12 : Int32) (w13 : Int32) (w14 : Int32) (w15 : (Nat → Int32)) (w16 : Int32), zf_X8_decodes_b289 fu v0 (zf_X8_decodes_L118 fu v0 n118) y3 z1 w0 w1 w2 w3 w4 w5 w6 w7 w8 w9 w10 w11 w12 w13 w14 w15 w16 = some res → zgGd G Z ({ frames := 3, cells := 0, slots := 0, locals := 74 } : Room) 0 0 5 [(q0, .inr (7, [.ref q1, .ref q2, .int w2, .ref q3, .int w4, .int w5, .ref q4, .int w7, .ref q5, .ref q6, .ref q7, .int w11, .int w12, .int w13, .int w14, .ref q8, .int w16])), (q1, .inl (G.2.2.1, 946, .inl w0)), (q2, .inl (G.2.2.1, 5676, .inl w1)), (q3, .inl (G.2.2.1, 60, .inl w3)), (q4, .inl (G.2.2.1, 201, .inl w6)), (q5, .inl (G.2.2.1, 201, .inl w8)), (q6, .inl (G.2.2.1, 201, .inl w9)), (q7, .inl (G.2.2.1, 201, .inl w10)), (q8, .inl (G.2.2.1, 201, .inl w15))] 289 [(0, .ref q0), (3, .int y3)] [.int z1, .ref q0] := by
        intro y3 z1 w0 w1 w2 w3 w4 w5 w6 w7 w8 w9 w10 w11 w12 w13 w14 w15 w16 hf
        unfold zf_X8_decodes_b289 at hf
        refine zg_put (C := RX8) (T := TX8) (N := 17) (ty := .int) (ws' := [(q0, .inr (7, [.ref q1, .ref q2, .int w2, .ref q3, .int w4, .int w5, .ref q4, .int w7, .ref q5, .ref q6, .ref q7, .int w11, .int w12, .int w13, .int z1, .ref q8, .int w16])), (q1, .inl (G.2.2.1, 946, .inl w0)), (q2, .inl (G.2.2.1, 5676, .inl w1)), (q3, .inl (G.2.2.1, 60, .inl w3)), (q4, .inl (G.2.2.1, 201, .inl w6)), (q5, .inl (G.2.2.1, 201, .inl w8)), (q6, .inl (G.2.2.1, 201, .inl w9)), (q7, .inl (G.2.2.1, 201, .inl w10)), (q8, .inl (G.2.2.1, 201, .inl w15))]) X 0 14 hiX8 tyX8 tyX8_ok nmX8 rfl rfl (by decide) hw6 rfl (by decide +kernel) rfl rfl (Nat.le_of_ble_eq_true rfl) rfl dX8_decodes_289 ?_
        obtain ⟨x33, ex33, hf⟩ := pl_l hf
        refine zg_iinc (v := x33) (L' := [(3, .int x33), (0, .ref q0)]) X dX8_decodes_292 (j := 1) rfl (by rw [ex33]; rfl) (by decide) rfl ?_
        refine zg_loc [1, 0] rfl ?_
        exact hb295 x33 w0 w1 w2 w3 w4 w5 w6 w7 w8 w9 w10 w11 w12 w13 z1 w15 w16 hf
      have hb281 : ∀ (y3 : Int32) (w0 : (Nat → Int32)) (w1 : (Nat → Int32)) (w2 : Int32) (w3 : (Nat → Int32)) (w4 : Int32) (w5 : Int32) (w6 : (Nat → Int32)) (w7 : Int32) (w8 : (Nat → Int32)) (w9 : (Nat → Int32)) (w10 : (Nat → Int32)) (w11 : Int32) (w12 : Int32) (w13 : Int32) (w14 : Int32) (w15 : (Nat → Int32)) (w16 : Int32), zf_X8_decodes_b281 fu v0 (zf_X8_decodes_L118 fu v0 n118) y3 w0 w1 w2 w3 w4 w5 w6 w7 w8 w9 w10 w11 w12 w13 w14 w15 w16 = some res → zgGd G Z ({ frames := 3, cells := 0, slots := 0, locals := 74 } : Room) 0 0 5 [(q0, .inr (7, [.ref q1, .ref q2, .int w2, .ref q3, .int w4, .int w5, .ref q4, .int w7, .ref q5, .ref q6, .ref q7, .int w11, .int w12, .int w13, .int w14, .ref q8, .int w16])), (q1, .inl (G.2.2.1, 946, .inl w0)), (q2, .inl (G.2.2.1, 5676, .inl w1)), (q3, .inl (G.2.2.1, 60, .inl w3)), (q4, .inl (G.2.2.1, 201, .inl w6)), (q5, .inl (G.2.2.1, 201, .inl w8)), (q6, .inl (G.2.2.1, 201, .inl w9)), (q7, .inl (G.2.2.1, 201, .inl w10)), (q8, .inl (G.2.2.1, 201, .inl w15))] 281 [(0, .ref q0), (3, .int y3)] [.ref q0] := by
        intro y3 w0 w1 w2 w3 w4 w5 w6 w7 w8 w9 w10 w11 w12 w13 w14 w15 w16 hf
        unfold zf_X8_decodes_b281 at hf
        refine zg_iconst (v := 0) X dX8_decodes_281 (by decide) ?_
        refine zg_goto (tgt := 289) X dX8_decodes_282 (by decide) ?_
        exact hb289 y3 0 w0 w1 w2 w3 w4 w5 w6 w7 w8 w9 w10 w11 w12 w13 w14 w15 w16 hf
      have hb285 : ∀ (y3 : Int32) (w0 : (Nat → Int32)) (w1 : (Nat → Int32)) (w2 : Int32) (w3 : (Nat → Int32)) (w4 : Int32) (w5 : Int32) (w6 : (Nat → Int32)) (w7 : Int32) (w8 : (Nat → Int32)) (w9 : (Nat → Int32)) (w10 : (Nat → Int32)) (w11 : Int32) (w12 : Int32) (w13 : Int32) (w14 : Int32) (w15 : (Nat → Int32)) (w16 : Int32), zf_X8_decodes_b285 fu v0 (zf_X8_decodes_L118 fu v0 n118) y3 w0 w1 w2 w3 w4 w5 w6 w7 w8 w9 w10 w11 w12 w13 w14 w15 w16 = some res → zgGd G Z ({ frames := 3, cells := 0, slots := 0, locals := 74 } : Room) 0 0 5 [(q0, .inr (7, [.ref q1, .ref q2, .int w2, .ref q3, .int w4, .int w5, .ref q4, .int w7, .ref q5, .ref q6, .ref q7, .int w11, .int w12, .int w13, .int w14, .ref q8, .int w16])), (q1, .inl (G.2.2.1, 946, .inl w0)), (q2, .inl (G.2.2.1, 5676, .inl w1)), (q3, .inl (G.2.2.1, 60, .inl w3)), (q4, .inl (G.2.2.1, 201, .inl w6)), (q5, .inl (G.2.2.1, 201, .inl w8)), (q6, .inl (G.2.2.1, 201, .inl w9)), (q7, .inl (G.2.2.1, 201, .inl w10)), (q8, .inl (G.2.2.1, 201, .inl w15))] 285 [(0, .ref q0), (3, .int y3)] [.ref q0] := by
        intro y3 w0 w1 w2 w3 w4 w5 w6 w7 w8 w9 w10 w11 w12 w13 w14 w15 w16 hf
        unfold zf_X8_decodes_b285 at hf
        refine zg_aload_n X dX8_decodes_285 rfl 0 rfl ?_
        refine zg_get (C := RX8) (T := TX8) (N := 17) X 0 14 hiX8 rfl rfl (by decide) hw6 rfl dX8_decodes_286 ?_
        exact hb289 y3 w14 w0 w1 w2 w3 w4 w5 w6 w7 w8 w9 w10 w11 w12 w13 w14 w15 w16 hf
      have hb243 : ∀ (y3 : Int32) (y4 : Int32) (w0 : (Nat → Int32)) (w1 : (Nat → Int32)) (w2 : Int32) (w3 : (Nat → Int32)) (w4 : Int32) (w5 : Int32) (w6 : (Nat → Int32)) (w7 : Int32) (w8 : (Nat → Int32)) (w9 : (Nat → Int32)) (w10 : (Nat → Int32)) (w11 : Int32) (w12 : Int32) (w13 : Int32) (w14 : Int32) (w15 : (Nat → Int32)) (w16 : Int32), zf_X8_decodes_b243 fu v0 (zf_X8_decodes_L118 fu v0 n118) y3 y4 w0 w1 w2 w3 w4 w5 w6 w7 w8 w9 w10 w11 w12 w13 w14 w15 w16 = some res → zgGd G Z ({ frames := 3, cells := 0, slots := 0, locals := 74 } : Room) 0 0 5 [(q0, .inr (7, [.ref q1, .ref q2, .int w2, .ref q3, .int w4, .int w5, .ref q4, .int w7, .ref q5, .ref q6, .ref q7, .int w11, .int w12, .int w13, .int w14, .ref q8, .int w16])), (q1, .inl (G.2.2.1, 946, .inl w0)), (q2, .inl (G.2.2.1, 5676, .inl w1)), (q3, .inl (G.2.2.1, 60, .inl w3)), (q4, .inl (G.2.2.1, 201, .inl w6)), (q5, .inl (G.2.2.1, 201, .inl w8)), (q6, .inl (G.2.2.1, 201, .inl w9)), (q7, .inl (G.2.2.1, 201, .inl w10)), (q8, .inl (G.2.2.1, 201, .inl w15))] 243 [(0, .ref q0), (3, .int y3), (4, .int y4)] [] := by
        intro y3 y4 w0 w1 w2 w3 w4 w5 w6 w7 w8 w9 w10 w11 w12 w13 w14 w15 w16 hf
        unfold zf_X8_decodes_b243 at hf
        refine zg_aload_n X dX8_decodes_243 rfl 0 rfl ?_
        refine zg_iload X dX8_decodes_244 2 rfl ?_
        refine zg_bipush (v := 30) X dX8_decodes_246 (by decide) ?_
        refine zg_icmp_ne (tgt := 255) X dX8_decodes_248 (by decide) (fun c27 => ?_) (fun c27 => ?_)
        · have hf := pl_f c27 hf
          refine zg_iload X dX8_decodes_255 2 rfl ?_
          refine zg_bipush (v := 31) X dX8_decodes_257 (by decide) ?_
          refine zg_icmp_eq (tgt := 281) X dX8_decodes_259 (by decide) (fun c28 => ?_) (fun c28 => ?_)
          · have hf := pl_t c28 hf
            refine zg_loc [0, 1] rfl ?_
            exact hb281 y3 w0 w1 w2 w3 w4 w5 w6 w7 w8 w9 w10 w11 w12 w13 w14 w15 w16 hf
          · have hf := pl_f c28 hf
            refine zg_iload X dX8_decodes_262 2 rfl ?_
            refine zg_bipush (v := 27) X dX8_decodes_264 (by decide) ?_
            refine zg_icmp_ne (tgt := 285) X dX8_decodes_266 (by decide) (fun c29 => ?_) (fun c29 => ?_)
            · have hf := pl_f c29 hf
              refine zg_loc [0, 1] rfl ?_
              exact hb285 y3 w0 w1 w2 w3 w4 w5 w6 w7 w8 w9 w10 w11 w12 w13 w14 w15 w16 hf
            · have hf := pl_t c29 hf
              refine zg_aload_n X dX8_decodes_269 rfl 0 rfl ?_
              refine zg_get (C := RX8) (T := TX8) (N := 17) X 0 0 hiX8 rfl rfl (by decide) hw1 rfl dX8_decodes_270 ?_
              refine zg_sipush (v := 604) X dX8_decodes_273 (by decide) ?_
              refine zg_iald X 1 rfl (by unfold vp_in; decide) dX8_decodes_276 ?_
              obtain ⟨x30, ex30, hf⟩ := pl_l hf
              refine zg_topi ex30 ?_
              refine zg_iconst (v := 1) X dX8_decodes_277 (by decide) ?_
              refine zg_icmp_ne (tgt := 285) X dX8_decodes_278 (by decide) (fun c31 => ?_) (fun c31 => ?_)
              · have hf := pl_f c31 hf
                refine zg_loc [0, 1] rfl ?_
                exact hb285 y3 w0 w1 w2 w3 w4 w5 w6 w7 w8 w9 w10 w11 w12 w13 w14 w15 w16 hf
              · have hf := pl_t c31 hf
                refine zg_loc [0, 1] rfl ?_
                exact hb281 y3 w0 w1 w2 w3 w4 w5 w6 w7 w8 w9 w10 w11 w12 w13 w14 w15 w16 hf
        · have hf := pl_t c27 hf
          refine zg_iconst (v := 1) X dX8_decodes_251 (by decide) ?_
          refine zg_goto (tgt := 289) X dX8_decodes_252 (by decide) ?_
          refine zg_loc [0, 1] rfl ?_
          exact hb289 y3 1 w0 w1 w2 w3 w4 w5 w6 w7 w8 w9 w10 w11 w12 w13 w14 w15 w16 hf
      have hb240 : ∀ (y3 : Int32) (y4 : Int32) (z1 : Int32) (w0 : (Nat → Int32)) (w1 : (Nat → Int32)) (w2 : Int32) (w3 : (Nat → Int32)) (w4 : Int32) (w5 : Int32) (w6 : (Nat → Int32)) (w7 : Int32) (w8 : (Nat → Int32)) (w9 : (Nat → Int32)) (w10 : (Nat → Int32)) (w11 : Int32) (w12 : Int32) (w13 : Int32) (w14 : Int32) (w15 : (Nat → Int32)) (w16 : Int32), zf_X8_decodes_b240 fu v0 (zf_X8_decodes_L118 fu v0 n118) y3 y4 z1 w0 w1 w2 w3 w4 w5 w6 w7 w8 w9 w10 w11 w12 w13 w14 w15 w16 = some res → zgGd G Z ({ frames := 3, cells := 0, slots := 0, locals := 74 } : Room) 0 0 5 [(q0, .inr (7, [.ref q1, .ref q2, .int w2, .ref q3, .int w4, .int w5, .ref q4, .int w7, .ref q5, .ref q6, .ref q7, .int w11, .int w12, .int w13, .int w14, .ref q8, .int w16])), (q1, .inl (G.2.2.1, 946, .inl w0)), (q2, .inl (G.2.2.1, 5676, .inl w1)), (q3, .inl (G.2.2.1, 60, .inl w3)), (q4, .inl (G.2.2.1, 201, .inl w6)), (q5, .inl (G.2.2.1, 201, .inl w8)), (q6, .inl (G.2.2.1, 201, .inl w9)), (q7, .inl (G.2.2.1, 201, .inl w10)), (q8, .inl (G.2.2.1, 201, .inl w15))] 240 [(0, .ref q0), (3, .int y3), (4, .int y4)] [.int z1, .ref q0] := by
        intro y3 y4 z1 w0 w1 w2 w3 w4 w5 w6 w7 w8 w9 w10 w11 w12 w13 w14 w15 w16 hf
        unfold zf_X8_decodes_b240 at hf
        obtain ⟨b32, hb32, hf⟩ := pl_b hf
        refine zg_cU0 (ws2 := [(q0, .inr (7, [.ref q1, .ref q2, .int b32.2.2.1, .ref q3, .int b32.2.2.2.2.1, .int b32.2.2.2.2.2.1, .ref q4, .int b32.2.2.2.2.2.2.2.1, .ref q5, .ref q6, .ref q7, .int b32.2.2.2.2.2.2.2.2.2.2.2.1, .int b32.2.2.2.2.2.2.2.2.2.2.2.2.1, .int b32.2.2.2.2.2.2.2.2.2.2.2.2.2.1, .int b32.2.2.2.2.2.2.2.2.2.2.2.2.2.2.1, .ref q8, .int b32.2.2.2.2.2.2.2.2.2.2.2.2.2.2.2.2])), (q1, .inl (G.2.2.1, 946, .inl b32.1)), (q2, .inl (G.2.2.1, 5676, .inl b32.2.1)), (q3, .inl (G.2.2.1, 60, .inl b32.2.2.2.1)), (q4, .inl (G.2.2.1, 201, .inl b32.2.2.2.2.2.2.1)), (q5, .inl (G.2.2.1, 201, .inl b32.2.2.2.2.2.2.2.2.1)), (q6, .inl (G.2.2.1, 201, .inl b32.2.2.2.2.2.2.2.2.2.1)), (q7, .inl (G.2.2.1, 201, .inl b32.2.2.2.2.2.2.2.2.2.2.1)), (q8, .inl (G.2.2.1, 201, .inl b32.2.2.2.2.2.2.2.2.2.2.2.2.2.2.2.1))]) X (zg_runV X (zc_X8_prints G q0 q1 q2 q3 q4 q5 q6 q7 q8 (w0, w1, w2, w3, w4, w5, w6, w7, w8, w9, w10, w11, w12, w13, w14, w15, w16) z1 fu b32 hb32) gX8_decodes_X8_prints rfl zh_X8_prints ⟨rfl, rfl⟩ ⟨Nat.le_of_ble_eq_true rfl, Nat.le_of_ble_eq_true rfl⟩ rfl rfl rfl (Nat.le_of_ble_eq_true rfl) ⟨Nat.le_of_ble_eq_true rfl, Nat.le_of_ble_eq_true rfl⟩ [0, 1, 2, 3, 4, 5, 6, 7, 8] (by decide) rfl rfl dX8_decodes_240) rfl rfl ?_
        exact hb243 y3 y4 b32.1 b32.2.1 b32.2.2.1 b32.2.2.2.1 b32.2.2.2.2.1 b32.2.2.2.2.2.1 b32.2.2.2.2.2.2.1 b32.2.2.2.2.2.2.2.1 b32.2.2.2.2.2.2.2.2.1 b32.2.2.2.2.2.2.2.2.2.1 b32.2.2.2.2.2.2.2.2.2.2.1 b32.2.2.2.2.2.2.2.2.2.2.2.1 b32.2.2.2.2.2.2.2.2.2.2.2.2.1 b32.2.2.2.2.2.2.2.2.2.2.2.2.2.1 b32.2.2.2.2.2.2.2.2.2.2.2.2.2.2.1 b32.2.2.2.2.2.2.2.2.2.2.2.2.2.2.2.1 b32.2.2.2.2.2.2.2.2.2.2.2.2.2.2.2.2 hf
      have hb225 : ∀ (y3 : Int32) (y4 : Int32) (w0 : (Nat → Int32)) (w1 : (Nat → Int32)) (w2 : Int32) (w3 : (Nat → Int32)) (w4 : Int32) (w5 : Int32) (w6 : (Nat → Int32)) (w7 : Int32) (w8 : (Nat → Int32)) (w9 : (Nat → Int32)) (w10 : (Nat → Int32)) (w11 : Int32) (w12 : Int32) (w13 : Int32) (w14 : Int32) (w15 : (Nat → Int32)) (w16 : Int32), zf_X8_decodes_b225 fu v0 (zf_X8_decodes_L118 fu v0 n118) y3 y4 w0 w1 w2 w3 w4 w5 w6 w7 w8 w9 w10 w11 w12 w13 w14 w15 w16 = some res → zgGd G Z ({ frames := 3, cells := 0, slots := 0, locals := 74 } : Room) 0 0 5 [(q0, .inr (7, [.ref q1, .ref q2, .int w2, .ref q3, .int w4, .int w5, .ref q4, .int w7, .ref q5, .ref q6, .ref q7, .int w11, .int w12, .int w13, .int w14, .ref q8, .int w16])), (q1, .inl (G.2.2.1, 946, .inl w0)), (q2, .inl (G.2.2.1, 5676, .inl w1)), (q3, .inl (G.2.2.1, 60, .inl w3)), (q4, .inl (G.2.2.1, 201, .inl w6)), (q5, .inl (G.2.2.1, 201, .inl w8)), (q6, .inl (G.2.2.1, 201, .inl w9)), (q7, .inl (G.2.2.1, 201, .inl w10)), (q8, .inl (G.2.2.1, 201, .inl w15))] 225 [(0, .ref q0), (3, .int y3), (4, .int y4)] [] := by
        intro y3 y4 w0 w1 w2 w3 w4 w5 w6 w7 w8 w9 w10 w11 w12 w13 w14 w15 w16 hf
        unfold zf_X8_decodes_b225 at hf
        refine zg_aload_n X dX8_decodes_225 rfl 0 rfl ?_
        refine zg_iload X dX8_decodes_226 2 rfl ?_
        refine zg_bipush (v := 27) X dX8_decodes_228 (by decide) ?_
        refine zg_icmp_ne (tgt := 238) X dX8_decodes_230 (by decide) (fun c26 => ?_) (fun c26 => ?_)
        · have hf := pl_f c26 hf
          refine zg_bipush (v := 10) X dX8_decodes_238 (by decide) ?_
          exact hb240 y3 y4 10 w0 w1 w2 w3 w4 w5 w6 w7 w8 w9 w10 w11 w12 w13 w14 w15 w16 hf
        · have hf := pl_t c26 hf
          refine zg_bipush (v := 32) X dX8_decodes_233 (by decide) ?_
          refine zg_goto (tgt := 240) X dX8_decodes_235 (by decide) ?_
          exact hb240 y3 y4 32 w0 w1 w2 w3 w4 w5 w6 w7 w8 w9 w10 w11 w12 w13 w14 w15 w16 hf
      have hb207 : ∀ (y3 : Int32) (y4 : Int32) (z1 : Int32) (z2 : Int32) (w0 : (Nat → Int32)) (w1 : (Nat → Int32)) (w2 : Int32) (w3 : (Nat → Int32)) (w4 : Int32) (w5 : Int32) (w6 : (Nat → Int32)) (w7 : Int32) (w8 : (Nat → Int32)) (w9 : (Nat → Int32)) (w10 : (Nat → Int32)) (w11 : Int32) (w12 : Int32) (w13 : Int32) (w14 : Int32) (w15 : (Nat → Int32)) (w16 : Int32), zf_X8_decodes_b207 fu v0 (zf_X8_decodes_L118 fu v0 n118) y3 y4 z1 z2 w0 w1 w2 w3 w4 w5 w6 w7 w8 w9 w10 w11 w12 w13 w14 w15 w16 = some res → zgGd G Z ({ frames := 3, cells := 0, slots := 0, locals := 74 } : Room) 0 0 5 [(q0, .inr (7, [.ref q1, .ref q2, .int w2, .ref q3, .int w4, .int w5, .ref q4, .int w7, .ref q5, .ref q6, .ref q7, .int w11, .int w12, .int w13, .int w14, .ref q8, .int w16])), (q1, .inl (G.2.2.1, 946, .inl w0)), (q2, .inl (G.2.2.1, 5676, .inl w1)), (q3, .inl (G.2.2.1, 60, .inl w3)), (q4, .inl (G.2.2.1, 201, .inl w6)), (q5, .inl (G.2.2.1, 201, .inl w8)), (q6, .inl (G.2.2.1, 201, .inl w9)), (q7, .inl (G.2.2.1, 201, .inl w10)), (q8, .inl (G.2.2.1, 201, .inl w15))] 207 [(0, .ref q0), (3, .int y3), (4, .int y4)] [.int z2, .int z1, .ref q0] := by
        intro y3 y4 z1 z2 w0 w1 w2 w3 w4 w5 w6 w7 w8 w9 w10 w11 w12 w13 w14 w15 w16 hf
        unfold zf_X8_decodes_b207 at hf
        refine zg_iadd X dX8_decodes_207 ?_
        obtain ⟨x23, ex23, hf⟩ := pl_l hf
        refine zg_topi ex23 ?_
        refine zg_put (C := RX8) (T := TX8) (N := 17) (ty := .int) (ws' := [(q0, .inr (7, [.ref q1, .ref q2, .int w2, .ref q3, .int w4, .int w5, .ref q4, .int w7, .ref q5, .ref q6, .ref q7, .int w11, .int w12, .int x23, .int w14, .ref q8, .int w16])), (q1, .inl (G.2.2.1, 946, .inl w0)), (q2, .inl (G.2.2.1, 5676, .inl w1)), (q3, .inl (G.2.2.1, 60, .inl w3)), (q4, .inl (G.2.2.1, 201, .inl w6)), (q5, .inl (G.2.2.1, 201, .inl w8)), (q6, .inl (G.2.2.1, 201, .inl w9)), (q7, .inl (G.2.2.1, 201, .inl w10)), (q8, .inl (G.2.2.1, 201, .inl w15))]) X 0 13 hiX8 tyX8 tyX8_ok nmX8 rfl rfl (by decide) hw5 rfl (by decide +kernel) rfl rfl (Nat.le_of_ble_eq_true rfl) rfl dX8_decodes_208 ?_
        refine zg_iload X dX8_decodes_211 2 rfl ?_
        refine zg_bipush (v := 27) X dX8_decodes_213 (by decide) ?_
        refine zg_icmp_eq (tgt := 225) X dX8_decodes_215 (by decide) (fun c24 => ?_) (fun c24 => ?_)
        · have hf := pl_t c24 hf
          exact hb225 y3 y4 w0 w1 w2 w3 w4 w5 w6 w7 w8 w9 w10 w11 w12 x23 w14 w15 w16 hf
        · have hf := pl_f c24 hf
          refine zg_iload X dX8_decodes_218 2 rfl ?_
          refine zg_bipush (v := 28) X dX8_decodes_220 (by decide) ?_
          refine zg_icmp_ne (tgt := 243) X dX8_decodes_222 (by decide) (fun c25 => ?_) (fun c25 => ?_)
          · have hf := pl_f c25 hf
            exact hb243 y3 y4 w0 w1 w2 w3 w4 w5 w6 w7 w8 w9 w10 w11 w12 x23 w14 w15 w16 hf
          · have hf := pl_t c25 hf
            exact hb225 y3 y4 w0 w1 w2 w3 w4 w5 w6 w7 w8 w9 w10 w11 w12 x23 w14 w15 w16 hf
      have hb206 : ∀ (y3 : Int32) (y4 : Int32) (z1 : Int32) (w0 : (Nat → Int32)) (w1 : (Nat → Int32)) (w2 : Int32) (w3 : (Nat → Int32)) (w4 : Int32) (w5 : Int32) (w6 : (Nat → Int32)) (w7 : Int32) (w8 : (Nat → Int32)) (w9 : (Nat → Int32)) (w10 : (Nat → Int32)) (w11 : Int32) (w12 : Int32) (w13 : Int32) (w14 : Int32) (w15 : (Nat → Int32)) (w16 : Int32), zf_X8_decodes_b206 fu v0 (zf_X8_decodes_L118 fu v0 n118) y3 y4 z1 w0 w1 w2 w3 w4 w5 w6 w7 w8 w9 w10 w11 w12 w13 w14 w15 w16 = some res → zgGd G Z ({ frames := 3, cells := 0, slots := 0, locals := 74 } : Room) 0 0 5 [(q0, .inr (7, [.ref q1, .ref q2, .int w2, .ref q3, .int w4, .int w5, .ref q4, .int w7, .ref q5, .ref q6, .ref q7, .int w11, .int w12, .int w13, .int w14, .ref q8, .int w16])), (q1, .inl (G.2.2.1, 946, .inl w0)), (q2, .inl (G.2.2.1, 5676, .inl w1)), (q3, .inl (G.2.2.1, 60, .inl w3)), (q4, .inl (G.2.2.1, 201, .inl w6)), (q5, .inl (G.2.2.1, 201, .inl w8)), (q6, .inl (G.2.2.1, 201, .inl w9)), (q7, .inl (G.2.2.1, 201, .inl w10)), (q8, .inl (G.2.2.1, 201, .inl w15))] 206 [(0, .ref q0), (3, .int y3), (4, .int y4)] [.int z1, .ref q0] := by
        intro y3 y4 z1 w0 w1 w2 w3 w4 w5 w6 w7 w8 w9 w10 w11 w12 w13 w14 w15 w16 hf
        unfold zf_X8_decodes_b206 at hf
        refine zg_iconst (v := 0) X dX8_decodes_206 (by decide) ?_
        exact hb207 y3 y4 z1 0 w0 w1 w2 w3 w4 w5 w6 w7 w8 w9 w10 w11 w12 w13 w14 w15 w16 hf
      have hb179 : ∀ (y3 : Int32) (y4 : Int32) (z1 : Int32) (z2 : Int32) (w0 : (Nat → Int32)) (w1 : (Nat → Int32)) (w2 : Int32) (w3 : (Nat → Int32)) (w4 : Int32) (w5 : Int32) (w6 : (Nat → Int32)) (w7 : Int32) (w8 : (Nat → Int32)) (w9 : (Nat → Int32)) (w10 : (Nat → Int32)) (w11 : Int32) (w12 : Int32) (w13 : Int32) (w14 : Int32) (w15 : (Nat → Int32)) (w16 : Int32), zf_X8_decodes_b179 fu v0 (zf_X8_decodes_L118 fu v0 n118) y3 y4 z1 z2 w0 w1 w2 w3 w4 w5 w6 w7 w8 w9 w10 w11 w12 w13 w14 w15 w16 = some res → zgGd G Z ({ frames := 3, cells := 0, slots := 0, locals := 74 } : Room) 0 0 5 [(q0, .inr (7, [.ref q1, .ref q2, .int w2, .ref q3, .int w4, .int w5, .ref q4, .int w7, .ref q5, .ref q6, .ref q7, .int w11, .int w12, .int w13, .int w14, .ref q8, .int w16])), (q1, .inl (G.2.2.1, 946, .inl w0)), (q2, .inl (G.2.2.1, 5676, .inl w1)), (q3, .inl (G.2.2.1, 60, .inl w3)), (q4, .inl (G.2.2.1, 201, .inl w6)), (q5, .inl (G.2.2.1, 201, .inl w8)), (q6, .inl (G.2.2.1, 201, .inl w9)), (q7, .inl (G.2.2.1, 201, .inl w10)), (q8, .inl (G.2.2.1, 201, .inl w15))] 179 [(0, .ref q0), (3, .int y3), (4, .int y4)] [.int z2, .int z1, .ref q0] := by
        intro y3 y4 z1 z2 w0 w1 w2 w3 w4 w5 w6 w7 w8 w9 w10 w11 w12 w13 w14 w15 w16 hf
        unfold zf_X8_decodes_b179 at hf
        refine zg_iadd X dX8_decodes_179 ?_
        obtain ⟨x19, ex19, hf⟩ := pl_l hf
        refine zg_topi ex19 ?_
        refine zg_put (C := RX8) (T := TX8) (N := 17) (ty := .int) (ws' := [(q0, .inr (7, [.ref q1, .ref q2, .int w2, .ref q3, .int w4, .int w5, .ref q4, .int w7, .ref q5, .ref q6, .ref q7, .int w11, .int x19, .int w13, .int w14, .ref q8, .int w16])), (q1, .inl (G.2.2.1, 946, .inl w0)), (q2, .inl (G.2.2.1, 5676, .inl w1)), (q3, .inl (G.2.2.1, 60, .inl w3)), (q4, .inl (G.2.2.1, 201, .inl w6)), (q5, .inl (G.2.2.1, 201, .inl w8)), (q6, .inl (G.2.2.1, 201, .inl w9)), (q7, .inl (G.2.2.1, 201, .inl w10)), (q8, .inl (G.2.2.1, 201, .inl w15))]) X 0 12 hiX8 tyX8 tyX8_ok nmX8 rfl rfl (by decide) hw4 rfl (by decide +kernel) rfl rfl (Nat.le_of_ble_eq_true rfl) rfl dX8_decodes_180 ?_
        refine zg_aload_n X dX8_decodes_183 rfl 0 rfl ?_
        refine zg_dup X dX8_decodes_184 rfl ?_
        refine zg_get (C := RX8) (T := TX8) (N := 17) X 0 13 hiX8 rfl rfl (by decide) hw5 rfl dX8_decodes_185 ?_
        refine zg_iload X dX8_decodes_188 2 rfl ?_
        refine zg_bipush (v := 29) X dX8_decodes_190 (by decide) ?_
        refine zg_icmp_ne (tgt := 206) X dX8_decodes_192 (by decide) (fun c20 => ?_) (fun c20 => ?_)
        · have hf := pl_f c20 hf
          exact hb206 y3 y4 w13 w0 w1 w2 w3 w4 w5 w6 w7 w8 w9 w10 w11 x19 w13 w14 w15 w16 hf
        · have hf := pl_t c20 hf
          refine zg_aload_n X dX8_decodes_195 rfl 0 rfl ?_
          refine zg_get (C := RX8) (T := TX8) (N := 17) X 0 14 hiX8 rfl rfl (by decide) hw6 rfl dX8_decodes_196 ?_
          refine zg_if_ne (tgt := 206) X dX8_decodes_199 (by decide) (fun c21 => ?_) (fun c21 => ?_)
          · have hf := pl_f c21 hf
            exact hb206 y3 y4 w13 w0 w1 w2 w3 w4 w5 w6 w7 w8 w9 w10 w11 x19 w13 w14 w15 w16 hf
          · have hf := pl_t c21 hf
            refine zg_iconst (v := 1) X dX8_decodes_202 (by decide) ?_
            refine zg_goto (tgt := 207) X dX8_decodes_203 (by decide) ?_
            exact hb207 y3 y4 w13 1 w0 w1 w2 w3 w4 w5 w6 w7 w8 w9 w10 w11 x19 w13 w14 w15 w16 hf
      have hb178 : ∀ (y3 : Int32) (y4 : Int32) (z1 : Int32) (w0 : (Nat → Int32)) (w1 : (Nat → Int32)) (w2 : Int32) (w3 : (Nat → Int32)) (w4 : Int32) (w5 : Int32) (w6 : (Nat → Int32)) (w7 : Int32) (w8 : (Nat → Int32)) (w9 : (Nat → Int32)) (w10 : (Nat → Int32)) (w11 : Int32) (w12 : Int32) (w13 : Int32) (w14 : Int32) (w15 : (Nat → Int32)) (w16 : Int32), zf_X8_decodes_b178 fu v0 (zf_X8_decodes_L118 fu v0 n118) y3 y4 z1 w0 w1 w2 w3 w4 w5 w6 w7 w8 w9 w10 w11 w12 w13 w14 w15 w16 = some res → zgGd G Z ({ frames := 3, cells := 0, slots := 0, locals := 74 } : Room) 0 0 5 [(q0, .inr (7, [.ref q1, .ref q2, .int w2, .ref q3, .int w4, .int w5, .ref q4, .int w7, .ref q5, .ref q6, .ref q7, .int w11, .int w12, .int w13, .int w14, .ref q8, .int w16])), (q1, .inl (G.2.2.1, 946, .inl w0)), (q2, .inl (G.2.2.1, 5676, .inl w1)), (q3, .inl (G.2.2.1, 60, .inl w3)), (q4, .inl (G.2.2.1, 201, .inl w6)), (q5, .inl (G.2.2.1, 201, .inl w8)), (q6, .inl (G.2.2.1, 201, .inl w9)), (q7, .inl (G.2.2.1, 201, .inl w10)), (q8, .inl (G.2.2.1, 201, .inl w15))] 178 [(0, .ref q0), (3, .int y3), (4, .int y4)] [.int z1, .ref q0] := by
        intro y3 y4 z1 w0 w1 w2 w3 w4 w5 w6 w7 w8 w9 w10 w11 w12 w13 w14 w15 w16 hf
        unfold zf_X8_decodes_b178 at hf
        refine zg_iconst (v := 0) X dX8_decodes_178 (by decide) ?_
        exact hb179 y3 y4 z1 0 w0 w1 w2 w3 w4 w5 w6 w7 w8 w9 w10 w11 w12 w13 w14 w15 w16 hf
      intro y3 w0 w1 w2 w3 w4 w5 w6 w7 w8 w9 w10 w11 w12 w13 w14 w15 w16 hf
      rw [zf_X8_decodes_L118] at hf
      refine zg_iload_n X dX8_decodes_118 rfl 1 rfl ?_
      refine zg_aload_n X dX8_decodes_119 rfl 0 rfl ?_
      refine zg_get (C := RX8) (T := TX8) (N := 17) X 0 16 hiX8 rfl rfl (by decide) hw0 rfl dX8_decodes_120 ?_
      refine zg_icmp_ge (tgt := 298) X dX8_decodes_123 (by decide) (fun c6 => ?_) (fun c6 => ?_)
      · have hf := pl_t c6 hf
        have hf := Option.some.inj hf
        subst hf
        exact zg_vret X hF () rfl rfl (Nat.le_of_ble_eq_true rfl) (Nat.le_of_ble_eq_true rfl) dX8_decodes_298
      · have hf := pl_f c6 hf
        refine zg_aload_n X dX8_decodes_126 rfl 0 rfl ?_
        refine zg_get (C := RX8) (T := TX8) (N := 17) X 0 15 hiX8 rfl rfl (by decide) hw7 rfl dX8_decodes_127 ?_
        refine zg_iload_n X dX8_decodes_130 rfl 1 rfl ?_
        obtain ⟨hin, hf⟩ := pl_in hf
        refine zg_iald X 8 rfl hin dX8_decodes_131 ?_
        obtain ⟨x7, ex7, hf⟩ := pl_l hf
        refine zg_topi ex7 ?_
        refine zg_istore (L' := [(4, .int x7), (0, .ref q0), (3, .int y3)]) X dX8_decodes_132 (by decide) rfl ?_
        refine zg_iload X dX8_decodes_134 0 rfl ?_
        refine zg_iconst (v := 1) X dX8_decodes_136 (by decide) ?_
        refine zg_bipush (v := 26) X dX8_decodes_137 (by decide) ?_
        obtain ⟨b8, hb8, hf⟩ := pl_b hf
        refine zg_cP1 X (zg_runS X (zc_X8_in G x7 1 26 fu b8 hb8) gX8_decodes_X8_in rfl zh_X8_in.2 ⟨rfl, rfl⟩ ⟨Nat.le_of_ble_eq_true rfl, Nat.le_of_ble_eq_true rfl⟩ rfl (Nat.le_of_ble_eq_true rfl) ⟨Nat.le_of_ble_eq_true rfl, Nat.le_of_ble_eq_true rfl⟩ [] (by decide) rfl rfl dX8_decodes_139) rfl ?_
        refine zg_if_eq (tgt := 154) X dX8_decodes_142 (by decide) (fun c9 => ?_) (fun c9 => ?_)
        · have hf := pl_t c9 hf
          refine zg_aload_n X dX8_decodes_154 rfl 1 rfl ?_
          refine zg_dup X dX8_decodes_155 rfl ?_
          refine zg_get (C := RX8) (T := TX8) (N := 17) X 0 12 hiX8 rfl rfl (by decide) hw4 rfl dX8_decodes_156 ?_
          refine zg_iload X dX8_decodes_159 0 rfl ?_
          refine zg_bipush (v := 29) X dX8_decodes_161 (by decide) ?_
          refine zg_icmp_ne (tgt := 178) X dX8_decodes_163 (by decide) (fun c10 => ?_) (fun c10 => ?_)
          · have hf := pl_f c10 hf
            refine zg_loc [1, 2, 0] rfl ?_
            exact hb178 y3 x7 w12 w0 w1 w2 w3 w4 w5 w6 w7 w8 w9 w10 w11 w12 w13 w14 w15 w16 hf
          · have hf := pl_t c10 hf
            refine zg_aload_n X dX8_decodes_166 rfl 1 rfl ?_
            refine zg_get (C := RX8) (T := TX8) (N := 17) X 0 14 hiX8 rfl rfl (by decide) hw6 rfl dX8_decodes_167 ?_
            refine zg_iconst (v := 1) X dX8_decodes_170 (by decide) ?_
            refine zg_icmp_ne (tgt := 178) X dX8_decodes_171 (by decide) (fun c11 => ?_) (fun c11 => ?_)
            · have hf := pl_f c11 hf
              refine zg_loc [1, 2, 0] rfl ?_
              exact hb178 y3 x7 w12 w0 w1 w2 w3 w4 w5 w6 w7 w8 w9 w10 w11 w12 w13 w14 w15 w16 hf
            · have hf := pl_t c11 hf
              refine zg_iconst (v := 1) X dX8_decodes_174 (by decide) ?_
              refine zg_goto (tgt := 179) X dX8_decodes_175 (by decide) ?_
              refine zg_loc [1, 2, 0] rfl ?_
              exact hb179 y3 x7 w12 1 w0 w1 w2 w3 w4 w5 w6 w7 w8 w9 w10 w11 w12 w13 w14 w15 w16 hf
        · have hf := pl_f c9 hf
          refine zg_aload_n X dX8_decodes_145 rfl 1 rfl ?_
          refine zg_iload_n X dX8_decodes_146 rfl 2 rfl ?_
          obtain ⟨b12, hb12, hf⟩ := pl_b hf
          refine zg_cU1 (ws2 := [(q0, .inr (7, [.ref q1, .ref q2, .int b12.2.2.2.1, .ref q3, .int b12.2.2.2.2.2.1, .int b12.2.2.2.2.2.2.1, .ref q4, .int b12.2.2.2.2.2.2.2.2.1, .ref q5, .ref q6, .ref q7, .int b12.2.2.2.2.2.2.2.2.2.2.2.2.1, .int b12.2.2.2.2.2.2.2.2.2.2.2.2.2.1, .int b12.2.2.2.2.2.2.2.2.2.2.2.2.2.2.1, .int b12.2.2.2.2.2.2.2.2.2.2.2.2.2.2.2.1, .ref q8, .int b12.2.2.2.2.2.2.2.2.2.2.2.2.2.2.2.2.2])), (q1, .inl (G.2.2.1, 946, .inl b12.2.1)), (q2, .inl (G.2.2.1, 5676, .inl b12.2.2.1)), (q3, .inl (G.2.2.1, 60, .inl b12.2.2.2.2.1)), (q4, .inl (G.2.2.1, 201, .inl b12.2.2.2.2.2.2.2.1)), (q5, .inl (G.2.2.1, 201, .inl b12.2.2.2.2.2.2.2.2.2.1)), (q6, .inl (G.2.2.1, 201, .inl b12.2.2.2.2.2.2.2.2.2.2.1)), (q7, .inl (G.2.2.1, 201, .inl b12.2.2.2.2.2.2.2.2.2.2.2.1)), (q8, .inl (G.2.2.1, 201, .inl b12.2.2.2.2.2.2.2.2.2.2.2.2.2.2.2.2.1))]) X (zg_runV X (zc_X8_segment G q0 q1 q2 q3 q4 q5 q6 q7 q8 (w0, w1, w2, w3, w4, w5, w6, w7, w8, w9, w10, w11, w12, w13, w14, w15, w16) y3 fu b12 hb12) gX8_decodes_X8_segment rfl zh_X8_segment ⟨rfl, rfl⟩ ⟨Nat.le_of_ble_eq_true rfl, Nat.le_of_ble_eq_true rfl⟩ rfl rfl rfl (Nat.le_of_ble_eq_true rfl) ⟨Nat.le_of_ble_eq_true rfl, Nat.le_of_ble_eq_true rfl⟩ [0, 1, 2, 3, 4, 5, 6, 7, 8] (by decide) rfl rfl dX8_decodes_147) rfl rfl ?_
          refine zg_istore_n (L' := [(3, .int b12.1), (4, .int x7), (0, .ref q0)]) X dX8_decodes_150 rfl (by decide) rfl ?_
          refine zg_goto (tgt := 295) X dX8_decodes_151 (by decide) ?_
          refine zg_loc [2, 0] rfl ?_
          exact hb295 b12.1 b12.2.1 b12.2.2.1 b12.2.2.2.1 b12.2.2.2.2.1 b12.2.2.2.2.2.1 b12.2.2.2.2.2.2.1 b12.2.2.2.2.2.2.2.1 b12.2.2.2.2.2.2.2.2.1 b12.2.2.2.2.2.2.2.2.2.1 b12.2.2.2.2.2.2.2.2.2.2.1 b12.2.2.2.2.2.2.2.2.2.2.2.1 b12.2.2.2.2.2.2.2.2.2.2.2.2.1 b12.2.2.2.2.2.2.2.2.2.2.2.2.2.1 b12.2.2.2.2.2.2.2.2.2.2.2.2.2.2.1 b12.2.2.2.2.2.2.2.2.2.2.2.2.2.2.2.1 b12.2.2.2.2.2.2.2.2.2.2.2.2.2.2.2.2.1 b12.2.2.2.2.2.2.2.2.2.2.2.2.2.2.2.2.2 hf
  have hL7 : ∀ (n : Nat) (y1 : Int32) (y2 : Int32) (y3 : Int32) (w0 : (Nat → Int32)) (w1 : (Nat → Int32)) (w2 : Int32) (w3 : (Nat → Int32)) (w4 : Int32) (w5 : Int32) (w6 : (Nat → Int32)) (w7 : Int32) (w8 : (Nat → Int32)) (w9 : (Nat → Int32)) (w10 : (Nat → Int32)) (w11 : Int32) (w12 : Int32) (w13 : Int32) (w14 : Int32) (w15 : (Nat → Int32)) (w16 : Int32), zf_X8_decodes_L7 fu v0 n y1 y2 y3 w0 w1 w2 w3 w4 w5 w6 w7 w8 w9 w10 w11 w12 w13 w14 w15 w16 = some res → zgGd G Z ({ frames := 3, cells := 0, slots := 0, locals := 74 } : Room) 0 0 5 [(q0, .inr (7, [.ref q1, .ref q2, .int w2, .ref q3, .int w4, .int w5, .ref q4, .int w7, .ref q5, .ref q6, .ref q7, .int w11, .int w12, .int w13, .int w14, .ref q8, .int w16])), (q1, .inl (G.2.2.1, 946, .inl w0)), (q2, .inl (G.2.2.1, 5676, .inl w1)), (q3, .inl (G.2.2.1, 60, .inl w3)), (q4, .inl (G.2.2.1, 201, .inl w6)), (q5, .inl (G.2.2.1, 201, .inl w8)), (q6, .inl (G.2.2.1, 201, .inl w9)), (q7, .inl (G.2.2.1, 201, .inl w10)), (q8, .inl (G.2.2.1, 201, .inl w15))] 7 [(0, .ref q0), (1, .int y1), (2, .int y2), (3, .int y3)] [] := by
    intro n
    induction n with
    | zero =>
      intro y1 y2 y3 w0 w1 w2 w3 w4 w5 w6 w7 w8 w9 w10 w11 w12 w13 w14 w15 w16 hf
      rw [zf_X8_decodes_L7] at hf
      cases hf
    | succ n7 ih7 =>
      have hb85 : ∀ (y1 : Int32) (y2 : Int32) (y3 : Int32) (w0 : (Nat → Int32)) (w1 : (Nat → Int32)) (w2 : Int32) (w3 : (Nat → Int32)) (w4 : Int32) (w5 : Int32) (w6 : (Nat → Int32)) (w7 : Int32) (w8 : (Nat → Int32)) (w9 : (Nat → Int32)) (w10 : (Nat → Int32)) (w11 : Int32) (w12 : Int32) (w13 : Int32) (w14 : Int32) (w15 : (Nat → Int32)) (w16 : Int32), zf_X8_decodes_b85 fu v0 (zf_X8_decodes_L7 fu v0 n7) y1 y2 y3 w0 w1 w2 w3 w4 w5 w6 w7 w8 w9 w10 w11 w12 w13 w14 w15 w16 = some res → zgGd G Z ({ frames := 3, cells := 0, slots := 0, locals := 74 } : Room) 0 0 5 [(q0, .inr (7, [.ref q1, .ref q2, .int w2, .ref q3, .int w4, .int w5, .ref q4, .int w7, .ref q5, .ref q6, .ref q7, .int w11, .int w12, .int w13, .int w14, .ref q8, .int w16])), (q1, .inl (G.2.2.1, 946, .inl w0)), (q2, .inl (G.2.2.1, 5676, .inl w1)), (q3, .inl (G.2.2.1, 60, .inl w3)), (q4, .inl (G.2.2.1, 201, .inl w6)), (q5, .inl (G.2.2.1, 201, .inl w8)), (q6, .inl (G.2.2.1, 201, .inl w9)), (q7, .inl (G.2.2.1, 201, .inl w10)), (q8, .inl (G.2.2.1, 201, .inl w15))] 85 [(0, .ref q0), (1, .int y1), (2, .int y2), (3, .int y3)] [] := by
        intro y1 y2 y3 w0 w1 w2 w3 w4 w5 w6 w7 w8 w9 w10 w11 w12 w13 w14 w15 w16 hf
        unfold zf_X8_decodes_b85 at hf
        obtain ⟨x22, ex22, hf⟩ := pl_l hf
        refine zg_iinc (v := x22) (L' := [(3, .int x22), (0, .ref q0), (1, .int y1), (2, .int y2)]) X dX8_decodes_85 (j := 3) rfl (by rw [ex22]; rfl) (by decide) rfl ?_
        refine zg_goto (tgt := 7) X dX8_decodes_88 (by decide) ?_
        refine zg_loc [1, 2, 3, 0] rfl ?_
        exact ih7 y1 y2 x22 w0 w1 w2 w3 w4 w5 w6 w7 w8 w9 w10 w11 w12 w13 w14 w15 w16 hf
      have hb44 : ∀ (y1 : Int32) (y2 : Int32) (y3 : Int32) (w0 : (Nat → Int32)) (w1 : (Nat → Int32)) (w2 : Int32) (w3 : (Nat → Int32)) (w4 : Int32) (w5 : Int32) (w6 : (Nat → Int32)) (w7 : Int32) (w8 : (Nat → Int32)) (w9 : (Nat → Int32)) (w10 : (Nat → Int32)) (w11 : Int32) (w12 : Int32) (w13 : Int32) (w14 : Int32) (w15 : (Nat → Int32)) (w16 : Int32), zf_X8_decodes_b44 fu v0 (zf_X8_decodes_L7 fu v0 n7) y1 y2 y3 w0 w1 w2 w3 w4 w5 w6 w7 w8 w9 w10 w11 w12 w13 w14 w15 w16 = some res → zgGd G Z ({ frames := 3, cells := 0, slots := 0, locals := 74 } : Room) 0 0 5 [(q0, .inr (7, [.ref q1, .ref q2, .int w2, .ref q3, .int w4, .int w5, .ref q4, .int w7, .ref q5, .ref q6, .ref q7, .int w11, .int w12, .int w13, .int w14, .ref q8, .int w16])), (q1, .inl (G.2.2.1, 946, .inl w0)), (q2, .inl (G.2.2.1, 5676, .inl w1)), (q3, .inl (G.2.2.1, 60, .inl w3)), (q4, .inl (G.2.2.1, 201, .inl w6)), (q5, .inl (G.2.2.1, 201, .inl w8)), (q6, .inl (G.2.2.1, 201, .inl w9)), (q7, .inl (G.2.2.1, 201, .inl w10)), (q8, .inl (G.2.2.1, 201, .inl w15))] 44 [(0, .ref q0), (1, .int y1), (2, .int y2), (3, .int y3)] [] := by
        intro y1 y2 y3 w0 w1 w2 w3 w4 w5 w6 w7 w8 w9 w10 w11 w12 w13 w14 w15 w16 hf
        unfold zf_X8_decodes_b44 at hf
        refine zg_iload_n X dX8_decodes_44 rfl 3 rfl ?_
        refine zg_aload_n X dX8_decodes_45 rfl 0 rfl ?_
        refine zg_get (C := RX8) (T := TX8) (N := 17) X 0 0 hiX8 rfl rfl (by decide) hw1 rfl dX8_decodes_46 ?_
        refine zg_sipush (v := 201) X dX8_decodes_49 (by decide) ?_
        refine zg_iald X 1 rfl (by unfold vp_in; decide) dX8_decodes_52 ?_
        obtain ⟨x13, ex13, hf⟩ := pl_l hf
        refine zg_topi ex13 ?_
        refine zg_icmp_ge (tgt := 85) X dX8_decodes_53 (by decide) (fun c14 => ?_) (fun c14 => ?_)
        · have hf := pl_t c14 hf
          exact hb85 y1 y2 y3 w0 w1 w2 w3 w4 w5 w6 w7 w8 w9 w10 w11 w12 w13 w14 w15 w16 hf
        · have hf := pl_f c14 hf
          refine zg_aload_n X dX8_decodes_56 rfl 0 rfl ?_
          refine zg_get (C := RX8) (T := TX8) (N := 17) X 0 15 hiX8 rfl rfl (by decide) hw7 rfl dX8_decodes_57 ?_
          refine zg_aload_n X dX8_decodes_60 rfl 0 rfl ?_
          refine zg_get (C := RX8) (T := TX8) (N := 17) X 0 16 hiX8 rfl rfl (by decide) hw0 rfl dX8_decodes_61 ?_
          refine zg_aload_n X dX8_decodes_64 rfl 0 rfl ?_
          refine zg_get (C := RX8) (T := TX8) (N := 17) X 0 0 hiX8 rfl rfl (by decide) hw1 rfl dX8_decodes_65 ?_
          refine zg_sipush (v := 202) X dX8_decodes_68 (by decide) ?_
          refine zg_iload_n X dX8_decodes_71 rfl 3 rfl ?_
          refine zg_iadd X dX8_decodes_72 ?_
          obtain ⟨x15, ex15, hf⟩ := pl_l hf
          refine zg_topi ex15 ?_
          obtain ⟨hin, hf⟩ := pl_in hf
          refine zg_iald X 1 rfl hin dX8_decodes_73 ?_
          obtain ⟨x16, ex16, hf⟩ := pl_l hf
          refine zg_topi ex16 ?_
          obtain ⟨hin, hf⟩ := pl_in hf
          obtain ⟨f17, ef17, hf⟩ := pl_l hf
          refine zg_iast (ws' := [(q0, .inr (7, [.ref q1, .ref q2, .int w2, .ref q3, .int w4, .int w5, .ref q4, .int w7, .ref q5, .ref q6, .ref q7, .int w11, .int w12, .int w13, .int w14, .ref q8, .int w16])), (q1, .inl (G.2.2.1, 946, .inl w0)), (q2, .inl (G.2.2.1, 5676, .inl w1)), (q3, .inl (G.2.2.1, 60, .inl w3)), (q4, .inl (G.2.2.1, 201, .inl w6)), (q5, .inl (G.2.2.1, 201, .inl w8)), (q6, .inl (G.2.2.1, 201, .inl w9)), (q7, .inl (G.2.2.1, 201, .inl w10)), (q8, .inl (G.2.2.1, 201, .inl f17))]) X 8 rfl hin (by subst ef17; rfl) dX8_decodes_74 ?_
          refine zg_aload_n X dX8_decodes_75 rfl 0 rfl ?_
          refine zg_dup X dX8_decodes_76 rfl ?_
          refine zg_get (C := RX8) (T := TX8) (N := 17) X 0 16 hiX8 rfl rfl (by decide) hw0 rfl dX8_decodes_77 ?_
          refine zg_iconst (v := 1) X dX8_decodes_80 (by decide) ?_
          refine zg_iadd X dX8_decodes_81 ?_
          obtain ⟨x18, ex18, hf⟩ := pl_l hf
          refine zg_topi ex18 ?_
          refine zg_put (C := RX8) (T := TX8) (N := 17) (ty := .int) (ws' := [(q0, .inr (7, [.ref q1, .ref q2, .int w2, .ref q3, .int w4, .int w5, .ref q4, .int w7, .ref q5, .ref q6, .ref q7, .int w11, .int w12, .int w13, .int w14, .ref q8, .int x18])), (q1, .inl (G.2.2.1, 946, .inl w0)), (q2, .inl (G.2.2.1, 5676, .inl w1)), (q3, .inl (G.2.2.1, 60, .inl w3)), (q4, .inl (G.2.2.1, 201, .inl w6)), (q5, .inl (G.2.2.1, 201, .inl w8)), (q6, .inl (G.2.2.1, 201, .inl w9)), (q7, .inl (G.2.2.1, 201, .inl w10)), (q8, .inl (G.2.2.1, 201, .inl f17))]) X 0 16 hiX8 tyX8 tyX8_ok nmX8 rfl rfl (by decide) hw0 rfl (by decide +kernel) rfl rfl (Nat.le_of_ble_eq_true rfl) rfl dX8_decodes_82 ?_
          exact hb85 y1 y2 y3 w0 w1 w2 w3 w4 w5 w6 w7 w8 w9 w10 w11 w12 w13 w14 f17 x18 hf
      intro y1 y2 y3 w0 w1 w2 w3 w4 w5 w6 w7 w8 w9 w10 w11 w12 w13 w14 w15 w16 hf
      rw [zf_X8_decodes_L7] at hf
      refine zg_iload_n X dX8_decodes_7 rfl 3 rfl ?_
      refine zg_aload_n X dX8_decodes_8 rfl 0 rfl ?_
      refine zg_get (C := RX8) (T := TX8) (N := 17) X 0 0 hiX8 rfl rfl (by decide) hw1 rfl dX8_decodes_9 ?_
      refine zg_sipush (v := 201) X dX8_decodes_12 (by decide) ?_
      refine zg_iald X 1 rfl (by unfold vp_in; decide) dX8_decodes_15 ?_
      obtain ⟨x1, ex1, hf⟩ := pl_l hf
      refine zg_topi ex1 ?_
      refine zg_icmp_gt (tgt := 91) X dX8_decodes_16 (by decide) (fun c2 => ?_) (fun c2 => ?_)
      · have hf := pl_t c2 hf
        refine zg_aload_n X dX8_decodes_91 rfl 0 rfl ?_
        refine zg_iconst (v := 0) X dX8_decodes_92 (by decide) ?_
        refine zg_put (C := RX8) (T := TX8) (N := 17) (ty := .int) (ws' := [(q0, .inr (7, [.ref q1, .ref q2, .int w2, .ref q3, .int w4, .int w5, .ref q4, .int 0, .ref q5, .ref q6, .ref q7, .int w11, .int w12, .int w13, .int w14, .ref q8, .int w16])), (q1, .inl (G.2.2.1, 946, .inl w0)), (q2, .inl (G.2.2.1, 5676, .inl w1)), (q3, .inl (G.2.2.1, 60, .inl w3)), (q4, .inl (G.2.2.1, 201, .inl w6)), (q5, .inl (G.2.2.1, 201, .inl w8)), (q6, .inl (G.2.2.1, 201, .inl w9)), (q7, .inl (G.2.2.1, 201, .inl w10)), (q8, .inl (G.2.2.1, 201, .inl w15))]) X 0 7 hiX8 tyX8 tyX8_ok nmX8 rfl rfl (by decide) hw2 rfl (by decide +kernel) rfl rfl (Nat.le_of_ble_eq_true rfl) rfl dX8_decodes_93 ?_
        refine zg_aload_n X dX8_decodes_96 rfl 0 rfl ?_
        refine zg_iconst (v := 0) X dX8_decodes_97 (by decide) ?_
        refine zg_put (C := RX8) (T := TX8) (N := 17) (ty := .int) (ws' := [(q0, .inr (7, [.ref q1, .ref q2, .int w2, .ref q3, .int w4, .int w5, .ref q4, .int 0, .ref q5, .ref q6, .ref q7, .int 0, .int w12, .int w13, .int w14, .ref q8, .int w16])), (q1, .inl (G.2.2.1, 946, .inl w0)), (q2, .inl (G.2.2.1, 5676, .inl w1)), (q3, .inl (G.2.2.1, 60, .inl w3)), (q4, .inl (G.2.2.1, 201, .inl w6)), (q5, .inl (G.2.2.1, 201, .inl w8)), (q6, .inl (G.2.2.1, 201, .inl w9)), (q7, .inl (G.2.2.1, 201, .inl w10)), (q8, .inl (G.2.2.1, 201, .inl w15))]) X 0 11 hiX8 tyX8 tyX8_ok nmX8 rfl rfl (by decide) hw3 rfl (by decide +kernel) rfl rfl (Nat.le_of_ble_eq_true rfl) rfl dX8_decodes_98 ?_
        refine zg_aload_n X dX8_decodes_101 rfl 0 rfl ?_
        refine zg_iconst (v := 0) X dX8_decodes_102 (by decide) ?_
        refine zg_put (C := RX8) (T := TX8) (N := 17) (ty := .int) (ws' := [(q0, .inr (7, [.ref q1, .ref q2, .int w2, .ref q3, .int w4, .int w5, .ref q4, .int 0, .ref q5, .ref q6, .ref q7, .int 0, .int 0, .int w13, .int w14, .ref q8, .int w16])), (q1, .inl (G.2.2.1, 946, .inl w0)), (q2, .inl (G.2.2.1, 5676, .inl w1)), (q3, .inl (G.2.2.1, 60, .inl w3)), (q4, .inl (G.2.2.1, 201, .inl w6)), (q5, .inl (G.2.2.1, 201, .inl w8)), (q6, .inl (G.2.2.1, 201, .inl w9)), (q7, .inl (G.2.2.1, 201, .inl w10)), (q8, .inl (G.2.2.1, 201, .inl w15))]) X 0 12 hiX8 tyX8 tyX8_ok nmX8 rfl rfl (by decide) hw4 rfl (by decide +kernel) rfl rfl (Nat.le_of_ble_eq_true rfl) rfl dX8_decodes_103 ?_
        refine zg_aload_n X dX8_decodes_106 rfl 0 rfl ?_
        refine zg_iconst (v := 0) X dX8_decodes_107 (by decide) ?_
        refine zg_put (C := RX8) (T := TX8) (N := 17) (ty := .int) (ws' := [(q0, .inr (7, [.ref q1, .ref q2, .int w2, .ref q3, .int w4, .int w5, .ref q4, .int 0, .ref q5, .ref q6, .ref q7, .int 0, .int 0, .int 0, .int w14, .ref q8, .int w16])), (q1, .inl (G.2.2.1, 946, .inl w0)), (q2, .inl (G.2.2.1, 5676, .inl w1)), (q3, .inl (G.2.2.1, 60, .inl w3)), (q4, .inl (G.2.2.1, 201, .inl w6)), (q5, .inl (G.2.2.1, 201, .inl w8)), (q6, .inl (G.2.2.1, 201, .inl w9)), (q7, .inl (G.2.2.1, 201, .inl w10)), (q8, .inl (G.2.2.1, 201, .inl w15))]) X 0 13 hiX8 tyX8 tyX8_ok nmX8 rfl rfl (by decide) hw5 rfl (by decide +kernel) rfl rfl (Nat.le_of_ble_eq_true rfl) rfl dX8_decodes_108 ?_
        refine zg_aload_n X dX8_decodes_111 rfl 0 rfl ?_
        refine zg_iconst (v := 0) X dX8_decodes_112 (by decide) ?_
        refine zg_put (C := RX8) (T := TX8) (N := 17) (ty := .int) (ws' := [(q0, .inr (7, [.ref q1, .ref q2, .int w2, .ref q3, .int w4, .int w5, .ref q4, .int 0, .ref q5, .ref q6, .ref q7, .int 0, .int 0, .int 0, .int 0, .ref q8, .int w16])), (q1, .inl (G.2.2.1, 946, .inl w0)), (q2, .inl (G.2.2.1, 5676, .inl w1)), (q3, .inl (G.2.2.1, 60, .inl w3)), (q4, .inl (G.2.2.1, 201, .inl w6)), (q5, .inl (G.2.2.1, 201, .inl w8)), (q6, .inl (G.2.2.1, 201, .inl w9)), (q7, .inl (G.2.2.1, 201, .inl w10)), (q8, .inl (G.2.2.1, 201, .inl w15))]) X 0 14 hiX8 tyX8 tyX8_ok nmX8 rfl rfl (by decide) hw6 rfl (by decide +kernel) rfl rfl (Nat.le_of_ble_eq_true rfl) rfl dX8_decodes_113 ?_
        refine zg_iconst (v := 0) X dX8_decodes_116 (by decide) ?_
        refine zg_istore_n (L' := [(3, .int 0), (0, .ref q0), (1, .int y1), (2, .int y2)]) X dX8_decodes_117 rfl (by decide) rfl ?_
        refine zg_loc [1, 0] rfl ?_
        exact hL118 fu 0 w0 w1 w2 w3 w4 w5 w6 0 w8 w9 w10 0 0 0 0 w15 w16 hf
      · have hf := pl_f c2 hf
        refine zg_iload_n X dX8_decodes_19 rfl 3 rfl ?_
        refine zg_iload_n X dX8_decodes_20 rfl 1 rfl ?_
        refine zg_icmp_ne (tgt := 44) X dX8_decodes_21 (by decide) (fun c3 => ?_) (fun c3 => ?_)
        · have hf := pl_f c3 hf
          exact hb44 y1 y2 y3 w0 w1 w2 w3 w4 w5 w6 w7 w8 w9 w10 w11 w12 w13 w14 w15 w16 hf
        · have hf := pl_t c3 hf
          refine zg_aload_n X dX8_decodes_24 rfl 0 rfl ?_
          refine zg_get (C := RX8) (T := TX8) (N := 17) X 0 15 hiX8 rfl rfl (by decide) hw7 rfl dX8_decodes_25 ?_
          refine zg_aload_n X dX8_decodes_28 rfl 0 rfl ?_
          refine zg_get (C := RX8) (T := TX8) (N := 17) X 0 16 hiX8 rfl rfl (by decide) hw0 rfl dX8_decodes_29 ?_
          refine zg_iload_n X dX8_decodes_32 rfl 2 rfl ?_
          obtain ⟨hin, hf⟩ := pl_in hf
          obtain ⟨f4, ef4, hf⟩ := pl_l hf
          refine zg_iast (ws' := [(q0, .inr (7, [.ref q1, .ref q2, .int w2, .ref q3, .int w4, .int w5, .ref q4, .int w7, .ref q5, .ref q6, .ref q7, .int w11, .int w12, .int w13, .int w14, .ref q8, .int w16])), (q1, .inl (G.2.2.1, 946, .inl w0)), (q2, .inl (G.2.2.1, 5676, .inl w1)), (q3, .inl (G.2.2.1, 60, .inl w3)), (q4, .inl (G.2.2.1, 201, .inl w6)), (q5, .inl (G.2.2.1, 201, .inl w8)), (q6, .inl (G.2.2.1, 201, .inl w9)), (q7, .inl (G.2.2.1, 201, .inl w10)), (q8, .inl (G.2.2.1, 201, .inl f4))]) X 8 rfl hin (by subst ef4; rfl) dX8_decodes_33 ?_
          refine zg_aload_n X dX8_decodes_34 rfl 0 rfl ?_
          refine zg_dup X dX8_decodes_35 rfl ?_
          refine zg_get (C := RX8) (T := TX8) (N := 17) X 0 16 hiX8 rfl rfl (by decide) hw0 rfl dX8_decodes_36 ?_
          refine zg_iconst (v := 1) X dX8_decodes_39 (by decide) ?_
          refine zg_iadd X dX8_decodes_40 ?_
          obtain ⟨x5, ex5, hf⟩ := pl_l hf
          refine zg_topi ex5 ?_
          refine zg_put (C := RX8) (T := TX8) (N := 17) (ty := .int) (ws' := [(q0, .inr (7, [.ref q1, .ref q2, .int w2, .ref q3, .int w4, .int w5, .ref q4, .int w7, .ref q5, .ref q6, .ref q7, .int w11, .int w12, .int w13, .int w14, .ref q8, .int x5])), (q1, .inl (G.2.2.1, 946, .inl w0)), (q2, .inl (G.2.2.1, 5676, .inl w1)), (q3, .inl (G.2.2.1, 60, .inl w3)), (q4, .inl (G.2.2.1, 201, .inl w6)), (q5, .inl (G.2.2.1, 201, .inl w8)), (q6, .inl (G.2.2.1, 201, .inl w9)), (q7, .inl (G.2.2.1, 201, .inl w10)), (q8, .inl (G.2.2.1, 201, .inl f4))]) X 0 16 hiX8 tyX8 tyX8_ok nmX8 rfl rfl (by decide) hw0 rfl (by decide +kernel) rfl rfl (Nat.le_of_ble_eq_true rfl) rfl dX8_decodes_41 ?_
          exact hb44 y1 y2 y3 w0 w1 w2 w3 w4 w5 w6 w7 w8 w9 w10 w11 w12 w13 w14 f4 x5 hf
  unfold zf_X8_decodes at hf
  refine zg_aload_n X dX8_decodes_0 rfl 0 rfl ?_
  refine zg_iconst (v := 0) X dX8_decodes_1 (by decide) ?_
  refine zg_put (C := RX8) (T := TX8) (N := 17) (ty := .int) (ws' := [(q0, .inr (7, [.ref q1, .ref q2, .int v0.2.2.1, .ref q3, .int v0.2.2.2.2.1, .int v0.2.2.2.2.2.1, .ref q4, .int v0.2.2.2.2.2.2.2.1, .ref q5, .ref q6, .ref q7, .int v0.2.2.2.2.2.2.2.2.2.2.2.1, .int v0.2.2.2.2.2.2.2.2.2.2.2.2.1, .int v0.2.2.2.2.2.2.2.2.2.2.2.2.2.1, .int v0.2.2.2.2.2.2.2.2.2.2.2.2.2.2.1, .ref q8, .int 0])), (q1, .inl (G.2.2.1, 946, .inl v0.1)), (q2, .inl (G.2.2.1, 5676, .inl v0.2.1)), (q3, .inl (G.2.2.1, 60, .inl v0.2.2.2.1)), (q4, .inl (G.2.2.1, 201, .inl v0.2.2.2.2.2.2.1)), (q5, .inl (G.2.2.1, 201, .inl v0.2.2.2.2.2.2.2.2.1)), (q6, .inl (G.2.2.1, 201, .inl v0.2.2.2.2.2.2.2.2.2.1)), (q7, .inl (G.2.2.1, 201, .inl v0.2.2.2.2.2.2.2.2.2.2.1)), (q8, .inl (G.2.2.1, 201, .inl v0.2.2.2.2.2.2.2.2.2.2.2.2.2.2.2.1))]) X 0 16 hiX8 tyX8 tyX8_ok nmX8 rfl rfl (by decide) hw0 rfl (by decide +kernel) rfl rfl (Nat.le_of_ble_eq_true rfl) rfl dX8_decodes_2 ?_
  refine zg_iconst (v := 0) X dX8_decodes_5 (by decide) ?_
  refine zg_istore_n (L' := [(3, .int 0), (0, .ref q0), (1, .int a1), (2, .int a2)]) X dX8_decodes_6 rfl (by decide) rfl ?_
  refine zg_loc [1, 2, 3, 0] rfl ?_
  exact hL7 fu a1 a2 0 v0.1 v0.2.1 v0.2.2.1 v0.2.2.2.1 v0.2.2.2.2.1 v0.2.2.2.2.2.1 v0.2.2.2.2.2.2.1 v0.2.2.2.2.2.2.2.1 v0.2.2.2.2.2.2.2.2.1 v0.2.2.2.2.2.2.2.2.2.1 v0.2.2.2.2.2.2.2.2.2.2.1 v0.2.2.2.2.2.2.2.2.2.2.2.1 v0.2.2.2.2.2.2.2.2.2.2.2.2.1 v0.2.2.2.2.2.2.2.2.2.2.2.2.2.1 v0.2.2.2.2.2.2.2.2.2.2.2.2.2.2.1 v0.2.2.2.2.2.2.2.2.2.2.2.2.2.2.2.1 0 hf
theorem zh_X8_withBit : yX8_withBit.cls = RX8 ∧ yX8_withBit.cls ≠ "java/lang/invoke/MethodHandle" ∧ yX8_withBit.cls ≠ "java/lang/invoke/VarHandle" ∧ (parseMethodDescriptor yX8_withBit.desc).map (fun d => d.parameters.length) = some 1 := by decide +kernel
set_option maxHeartbeats 8000000 in
set_option maxRecDepth 100000 in
theorem zc_X8_withBit (G : zgG) (q0 q1 q2 q3 q4 q5 q6 q7 q8 : Nat) (v0 : zModel) (a1 : Int32) (fu : Nat) (res : Int32) (hf : zf_X8_withBit fu v0 a1 = some res) : zgCt G yX8_withBit wsX8_withBit ({ frames := 0, cells := 0, slots := 0, locals := 0 } : Room) [.ref q0, .int a1] [(q0, .inr (7, [.ref q1, .ref q2, .int v0.2.2.1, .ref q3, .int v0.2.2.2.2.1, .int v0.2.2.2.2.2.1, .ref q4, .int v0.2.2.2.2.2.2.2.1, .ref q5, .ref q6, .ref q7, .int v0.2.2.2.2.2.2.2.2.2.2.2.1, .int v0.2.2.2.2.2.2.2.2.2.2.2.2.1, .int v0.2.2.2.2.2.2.2.2.2.2.2.2.2.1, .int v0.2.2.2.2.2.2.2.2.2.2.2.2.2.2.1, .ref q8, .int v0.2.2.2.2.2.2.2.2.2.2.2.2.2.2.2.2])), (q1, .inl (G.2.2.1, 946, .inl v0.1)), (q2, .inl (G.2.2.1, 5676, .inl v0.2.1)), (q3, .inl (G.2.2.1, 60, .inl v0.2.2.2.1)), (q4, .inl (G.2.2.1, 201, .inl v0.2.2.2.2.2.2.1)), (q5, .inl (G.2.2.1, 201, .inl v0.2.2.2.2.2.2.2.2.1)), (q6, .inl (G.2.2.1, 201, .inl v0.2.2.2.2.2.2.2.2.2.1)), (q7, .inl (G.2.2.1, 201, .inl v0.2.2.2.2.2.2.2.2.2.2.1)), (q8, .inl (G.2.2.1, 201, .inl v0.2.2.2.2.2.2.2.2.2.2.2.2.2.2.2.1))] (fun _ : Unit => some (.int res)) (fun _ => [(q0, .inr (7, [.ref q1, .ref q2, .int v0.2.2.1, .ref q3, .int v0.2.2.2.2.1, .int v0.2.2.2.2.2.1, .ref q4, .int v0.2.2.2.2.2.2.2.1, .ref q5, .ref q6, .ref q7, .int v0.2.2.2.2.2.2.2.2.2.2.2.1, .int v0.2.2.2.2.2.2.2.2.2.2.2.2.1, .int v0.2.2.2.2.2.2.2.2.2.2.2.2.2.1, .int v0.2.2.2.2.2.2.2.2.2.2.2.2.2.2.1, .ref q8, .int v0.2.2.2.2.2.2.2.2.2.2.2.2.2.2.2.2])), (q1, .inl (G.2.2.1, 946, .inl v0.1)), (q2, .inl (G.2.2.1, 5676, .inl v0.2.1)), (q3, .inl (G.2.2.1, 60, .inl v0.2.2.2.1)), (q4, .inl (G.2.2.1, 201, .inl v0.2.2.2.2.2.2.1)), (q5, .inl (G.2.2.1, 201, .inl v0.2.2.2.2.2.2.2.2.1)), (q6, .inl (G.2.2.1, 201, .inl v0.2.2.2.2.2.2.2.2.2.1)), (q7, .inl (G.2.2.1, 201, .inl v0.2.2.2.2.2.2.2.2.2.2.1)), (q8, .inl (G.2.2.1, 201, .inl v0.2.2.2.2.2.2.2.2.2.2.2.2.2.2.2.1))]) 0 0 := by
  have hw0 : Cond.fieldLink RX8 97 "TelexReceiverModel" "segments" "I" ∈ wsX8_withBit := by decide +kernel
  have hw1 : Cond.fieldLink RX8 28 "TelexReceiverModel" "kind" "[I" ∈ wsX8_withBit := by decide +kernel
  have hiX8 : ∀ w ∈ u_ws RX8 TX8 17, w ∈ wsX8_withBit := by decide +kernel
  refine zg_of (own := RX8) (cc := cX8_withBit) (nL := 4) (ret := (some .int)) (by decide +kernel) rfl rfl (Nat.le_of_ble_eq_true rfl) (fun Z X hF => ?_)
  show zgGd G Z _ 0 0 4 _ 0 [(0, .ref q0), (1, .int a1)] []
  have hL4 : ∀ (n : Nat) (y1 : Int32) (y2 : Int32) (y3 : Int32), zf_X8_withBit_L4 fu v0 n y1 y2 y3 = some res → zgGd G Z ({ frames := 0, cells := 0, slots := 0, locals := 0 } : Room) 0 0 4 [(q0, .inr (7, [.ref q1, .ref q2, .int v0.2.2.1, .ref q3, .int v0.2.2.2.2.1, .int v0.2.2.2.2.2.1, .ref q4, .int v0.2.2.2.2.2.2.2.1, .ref q5, .ref q6, .ref q7, .int v0.2.2.2.2.2.2.2.2.2.2.2.1, .int v0.2.2.2.2.2.2.2.2.2.2.2.2.1, .int v0.2.2.2.2.2.2.2.2.2.2.2.2.2.1, .int v0.2.2.2.2.2.2.2.2.2.2.2.2.2.2.1, .ref q8, .int v0.2.2.2.2.2.2.2.2.2.2.2.2.2.2.2.2])), (q1, .inl (G.2.2.1, 946, .inl v0.1)), (q2, .inl (G.2.2.1, 5676, .inl v0.2.1)), (q3, .inl (G.2.2.1, 60, .inl v0.2.2.2.1)), (q4, .inl (G.2.2.1, 201, .inl v0.2.2.2.2.2.2.1)), (q5, .inl (G.2.2.1, 201, .inl v0.2.2.2.2.2.2.2.2.1)), (q6, .inl (G.2.2.1, 201, .inl v0.2.2.2.2.2.2.2.2.2.1)), (q7, .inl (G.2.2.1, 201, .inl v0.2.2.2.2.2.2.2.2.2.2.1)), (q8, .inl (G.2.2.1, 201, .inl v0.2.2.2.2.2.2.2.2.2.2.2.2.2.2.2.1))] 4 [(0, .ref q0), (1, .int y1), (2, .int y2), (3, .int y3)] [] := by
    intro n
    induction n with
    | zero =>
      intro y1 y2 y3 hf
      rw [zf_X8_withBit_L4] at hf
      cases hf
    | succ n4 ih4 =>
      have hb29 : ∀ (y1 : Int32) (y3 : Int32) (z0 : Int32) (z1 : Int32), zf_X8_withBit_b29 fu v0 (zf_X8_withBit_L4 fu v0 n4) y1 y3 z0 z1 = some res → zgGd G Z ({ frames := 0, cells := 0, slots := 0, locals := 0 } : Room) 0 0 4 [(q0, .inr (7, [.ref q1, .ref q2, .int v0.2.2.1, .ref q3, .int v0.2.2.2.2.1, .int v0.2.2.2.2.2.1, .ref q4, .int v0.2.2.2.2.2.2.2.1, .ref q5, .ref q6, .ref q7, .int v0.2.2.2.2.2.2.2.2.2.2.2.1, .int v0.2.2.2.2.2.2.2.2.2.2.2.2.1, .int v0.2.2.2.2.2.2.2.2.2.2.2.2.2.1, .int v0.2.2.2.2.2.2.2.2.2.2.2.2.2.2.1, .ref q8, .int v0.2.2.2.2.2.2.2.2.2.2.2.2.2.2.2.2])), (q1, .inl (G.2.2.1, 946, .inl v0.1)), (q2, .inl (G.2.2.1, 5676, .inl v0.2.1)), (q3, .inl (G.2.2.1, 60, .inl v0.2.2.2.1)), (q4, .inl (G.2.2.1, 201, .inl v0.2.2.2.2.2.2.1)), (q5, .inl (G.2.2.1, 201, .inl v0.2.2.2.2.2.2.2.2.1)), (q6, .inl (G.2.2.1, 201, .inl v0.2.2.2.2.2.2.2.2.2.1)), (q7, .inl (G.2.2.1, 201, .inl v0.2.2.2.2.2.2.2.2.2.2.1)), (q8, .inl (G.2.2.1, 201, .inl v0.2.2.2.2.2.2.2.2.2.2.2.2.2.2.2.1))] 29 [(0, .ref q0), (1, .int y1), (3, .int y3)] [.int z1, .int z0] := by
        intro y1 y3 z0 z1 hf
        unfold zf_X8_withBit_b29 at hf
        refine zg_iadd X dX8_withBit_29 ?_
        obtain ⟨x4, ex4, hf⟩ := pl_l hf
        refine zg_topi ex4 ?_
        refine zg_istore_n (L' := [(2, .int x4), (0, .ref q0), (1, .int y1), (3, .int y3)]) X dX8_withBit_30 rfl (by decide) rfl ?_
        obtain ⟨x5, ex5, hf⟩ := pl_l hf
        refine zg_iinc (v := x5) (L' := [(3, .int x5), (2, .int x4), (0, .ref q0), (1, .int y1)]) X dX8_withBit_31 (j := 3) rfl (by rw [ex5]; rfl) (by decide) rfl ?_
        refine zg_goto (tgt := 4) X dX8_withBit_34 (by decide) ?_
        refine zg_loc [2, 3, 1, 0] rfl ?_
        exact ih4 y1 x4 x5 hf
      intro y1 y2 y3 hf
      rw [zf_X8_withBit_L4] at hf
      refine zg_iload_n X dX8_withBit_4 rfl 3 rfl ?_
      refine zg_aload_n X dX8_withBit_5 rfl 0 rfl ?_
      refine zg_get (C := RX8) (T := TX8) (N := 17) X 0 11 hiX8 rfl rfl (by decide) hw0 rfl dX8_withBit_6 ?_
      refine zg_icmp_ge (tgt := 37) X dX8_withBit_9 (by decide) (fun c1 => ?_) (fun c1 => ?_)
      · have hf := pl_t c1 hf
        refine zg_iload_n X dX8_withBit_37 rfl 2 rfl ?_
        have hf := Option.some.inj hf
        subst hf
        exact zg_iret X hF rfl rfl () rfl rfl (Nat.le_of_ble_eq_true rfl) (Nat.le_of_ble_eq_true rfl) dX8_withBit_38
      · have hf := pl_f c1 hf
        refine zg_iload_n X dX8_withBit_12 rfl 2 rfl ?_
        refine zg_aload_n X dX8_withBit_13 rfl 0 rfl ?_
        refine zg_get (C := RX8) (T := TX8) (N := 17) X 0 10 hiX8 rfl rfl (by decide) hw1 rfl dX8_withBit_14 ?_
        refine zg_iload_n X dX8_withBit_17 rfl 3 rfl ?_
        obtain ⟨hin, hf⟩ := pl_in hf
        refine zg_iald X 7 rfl hin dX8_withBit_18 ?_
        obtain ⟨x2, ex2, hf⟩ := pl_l hf
        refine zg_topi ex2 ?_
        refine zg_iload_n X dX8_withBit_19 rfl 1 rfl ?_
        refine zg_iand X dX8_withBit_20 ?_
        refine zg_if_eq (tgt := 28) X dX8_withBit_21 (by decide) (fun c3 => ?_) (fun c3 => ?_)
        · have hf := pl_t c3 hf
          refine zg_iconst (v := 0) X dX8_withBit_28 (by decide) ?_
          refine zg_loc [0, 1, 3] rfl ?_
          exact hb29 y1 y3 y2 0 hf
        · have hf := pl_f c3 hf
          refine zg_iconst (v := 1) X dX8_withBit_24 (by decide) ?_
          refine zg_goto (tgt := 29) X dX8_withBit_25 (by decide) ?_
          refine zg_loc [0, 1, 3] rfl ?_
          exact hb29 y1 y3 y2 1 hf
  unfold zf_X8_withBit at hf
  refine zg_iconst (v := 0) X dX8_withBit_0 (by decide) ?_
  refine zg_istore_n (L' := [(2, .int 0), (0, .ref q0), (1, .int a1)]) X dX8_withBit_1 rfl (by decide) rfl ?_
  refine zg_iconst (v := 0) X dX8_withBit_2 (by decide) ?_
  refine zg_istore_n (L' := [(3, .int 0), (2, .int 0), (0, .ref q0), (1, .int a1)]) X dX8_withBit_3 rfl (by decide) rfl ?_
  refine zg_loc [2, 3, 1, 0] rfl ?_
  exact hL4 fu a1 0 0 hf
theorem zh_X8_unshiftOnSpace : yX8_unshiftOnSpace.cls = RX8 ∧ yX8_unshiftOnSpace.cls ≠ "java/lang/invoke/MethodHandle" ∧ yX8_unshiftOnSpace.cls ≠ "java/lang/invoke/VarHandle" ∧ (parseMethodDescriptor yX8_unshiftOnSpace.desc).map (fun d => d.parameters.length) = some 1 := by decide +kernel
set_option maxHeartbeats 8000000 in
set_option maxRecDepth 100000 in
theorem zc_X8_unshiftOnSpace (G : zgG) (q0 q1 q2 q3 q4 q5 q6 q7 q8 : Nat) (v0 : zModel) (a1 : Int32) (fu : Nat) (res : (Int32 × zModel)) (hf : zf_X8_unshiftOnSpace fu v0 a1 = some res) : zgCt G yX8_unshiftOnSpace wsX8_unshiftOnSpace ({ frames := 1, cells := 0, slots := 0, locals := 21 } : Room) [.ref q0, .int a1] [(q0, .inr (7, [.ref q1, .ref q2, .int v0.2.2.1, .ref q3, .int v0.2.2.2.2.1, .int v0.2.2.2.2.2.1, .ref q4, .int v0.2.2.2.2.2.2.2.1, .ref q5, .ref q6, .ref q7, .int v0.2.2.2.2.2.2.2.2.2.2.2.1, .int v0.2.2.2.2.2.2.2.2.2.2.2.2.1, .int v0.2.2.2.2.2.2.2.2.2.2.2.2.2.1, .int v0.2.2.2.2.2.2.2.2.2.2.2.2.2.2.1, .ref q8, .int v0.2.2.2.2.2.2.2.2.2.2.2.2.2.2.2.2])), (q1, .inl (G.2.2.1, 946, .inl v0.1)), (q2, .inl (G.2.2.1, 5676, .inl v0.2.1)), (q3, .inl (G.2.2.1, 60, .inl v0.2.2.2.1)), (q4, .inl (G.2.2.1, 201, .inl v0.2.2.2.2.2.2.1)), (q5, .inl (G.2.2.1, 201, .inl v0.2.2.2.2.2.2.2.2.1)), (q6, .inl (G.2.2.1, 201, .inl v0.2.2.2.2.2.2.2.2.2.1)), (q7, .inl (G.2.2.1, 201, .inl v0.2.2.2.2.2.2.2.2.2.2.1)), (q8, .inl (G.2.2.1, 201, .inl v0.2.2.2.2.2.2.2.2.2.2.2.2.2.2.2.1))] (fun _ : Unit => some (.int res.1)) (fun _ => [(q0, .inr (7, [.ref q1, .ref q2, .int res.2.2.2.1, .ref q3, .int res.2.2.2.2.2.1, .int res.2.2.2.2.2.2.1, .ref q4, .int res.2.2.2.2.2.2.2.2.1, .ref q5, .ref q6, .ref q7, .int res.2.2.2.2.2.2.2.2.2.2.2.2.1, .int res.2.2.2.2.2.2.2.2.2.2.2.2.2.1, .int res.2.2.2.2.2.2.2.2.2.2.2.2.2.2.1, .int res.2.2.2.2.2.2.2.2.2.2.2.2.2.2.2.1, .ref q8, .int res.2.2.2.2.2.2.2.2.2.2.2.2.2.2.2.2.2])), (q1, .inl (G.2.2.1, 946, .inl res.2.1)), (q2, .inl (G.2.2.1, 5676, .inl res.2.2.1)), (q3, .inl (G.2.2.1, 60, .inl res.2.2.2.2.1)), (q4, .inl (G.2.2.1, 201, .inl res.2.2.2.2.2.2.2.1)), (q5, .inl (G.2.2.1, 201, .inl res.2.2.2.2.2.2.2.2.2.1)), (q6, .inl (G.2.2.1, 201, .inl res.2.2.2.2.2.2.2.2.2.2.1)), (q7, .inl (G.2.2.1, 201, .inl res.2.2.2.2.2.2.2.2.2.2.2.1)), (q8, .inl (G.2.2.1, 201, .inl res.2.2.2.2.2.2.2.2.2.2.2.2.2.2.2.2.1))]) 0 0 := by
  have hw0 : Cond.fieldLink RX8 38 "TelexReceiverModel" "thrown" "I" ∈ wsX8_unshiftOnSpace := by decide +kernel
  have hw1 : Cond.fieldLink RX8 7 "TelexReceiverModel" "s" "[I" ∈ wsX8_unshiftOnSpace := by decide +kernel
  have hiX8 : ∀ w ∈ u_ws RX8 TX8 17, w ∈ wsX8_unshiftOnSpace := by decide +kernel
  refine zg_of (own := RX8) (cc := cX8_unshiftOnSpace) (nL := 3) (ret := (some .boolean)) (by decide +kernel) rfl rfl (Nat.le_of_ble_eq_true rfl) (fun Z X hF => ?_)
  show zgGd G Z _ 0 0 3 _ 0 [(0, .ref q0), (1, .int a1)] []
  have hb43 : ∀ (y2 : Int32) (z1 : Int32) (z2 : Int32) (w0 : (Nat → Int32)) (w1 : (Nat → Int32)) (w2 : Int32) (w3 : (Nat → Int32)) (w4 : Int32) (w5 : Int32) (w6 : (Nat → Int32)) (w7 : Int32) (w8 : (Nat → Int32)) (w9 : (Nat → Int32)) (w10 : (Nat → Int32)) (w11 : Int32) (w12 : Int32) (w13 : Int32) (w14 : Int32) (w15 : (Nat → Int32)) (w16 : Int32), zf_X8_unshiftOnSpace_b43 fu v0 y2 z1 z2 w0 w1 w2 w3 w4 w5 w6 w7 w8 w9 w10 w11 w12 w13 w14 w15 w16 = some res → zgGd G Z ({ frames := 1, cells := 0, slots := 0, locals := 21 } : Room) 0 0 3 [(q0, .inr (7, [.ref q1, .ref q2, .int w2, .ref q3, .int w4, .int w5, .ref q4, .int w7, .ref q5, .ref q6, .ref q7, .int w11, .int w12, .int w13, .int w14, .ref q8, .int w16])), (q1, .inl (G.2.2.1, 946, .inl w0)), (q2, .inl (G.2.2.1, 5676, .inl w1)), (q3, .inl (G.2.2.1, 60, .inl w3)), (q4, .inl (G.2.2.1, 201, .inl w6)), (q5, .inl (G.2.2.1, 201, .inl w8)), (q6, .inl (G.2.2.1, 201, .inl w9)), (q7, .inl (G.2.2.1, 201, .inl w10)), (q8, .inl (G.2.2.1, 201, .inl w15))] 43 [(2, .int y2)] [.int z2, .int z1, .ref q1] := by
    intro y2 z1 z2 w0 w1 w2 w3 w4 w5 w6 w7 w8 w9 w10 w11 w12 w13 w14 w15 w16 hf
    unfold zf_X8_unshiftOnSpace_b43 at hf
    obtain ⟨hin, hf⟩ := pl_in hf
    obtain ⟨f5, ef5, hf⟩ := pl_l hf
    refine zg_iast (ws' := [(q0, .inr (7, [.ref q1, .ref q2, .int w2, .ref q3, .int w4, .int w5, .ref q4, .int w7, .ref q5, .ref q6, .ref q7, .int w11, .int w12, .int w13, .int w14, .ref q8, .int w16])), (q1, .inl (G.2.2.1, 946, .inl f5)), (q2, .inl (G.2.2.1, 5676, .inl w1)), (q3, .inl (G.2.2.1, 60, .inl w3)), (q4, .inl (G.2.2.1, 201, .inl w6)), (q5, .inl (G.2.2.1, 201, .inl w8)), (q6, .inl (G.2.2.1, 201, .inl w9)), (q7, .inl (G.2.2.1, 201, .inl w10)), (q8, .inl (G.2.2.1, 201, .inl w15))]) X 1 rfl hin (by subst ef5; rfl) dX8_unshiftOnSpace_43 ?_
    refine zg_iload_n X dX8_unshiftOnSpace_44 rfl 0 rfl ?_
    obtain ⟨hb6, hf⟩ := pl_o hf
    have hf := Option.some.inj hf
    subst hf
    exact zg_iret X hF rfl (pl_nz hb6) () rfl rfl (Nat.le_of_ble_eq_true rfl) (Nat.le_of_ble_eq_true rfl) dX8_unshiftOnSpace_45
  have hb26 : ∀ (y1 : Int32) (z0 : Int32) (w0 : (Nat → Int32)) (w1 : (Nat → Int32)) (w2 : Int32) (w3 : (Nat → Int32)) (w4 : Int32) (w5 : Int32) (w6 : (Nat → Int32)) (w7 : Int32) (w8 : (Nat → Int32)) (w9 : (Nat → Int32)) (w10 : (Nat → Int32)) (w11 : Int32) (w12 : Int32) (w13 : Int32) (w14 : Int32) (w15 : (Nat → Int32)) (w16 : Int32), zf_X8_unshiftOnSpace_b26 fu v0 y1 z0 w0 w1 w2 w3 w4 w5 w6 w7 w8 w9 w10 w11 w12 w13 w14 w15 w16 = some res → zgGd G Z ({ frames := 1, cells := 0, slots := 0, locals := 21 } : Room) 0 0 3 [(q0, .inr (7, [.ref q1, .ref q2, .int w2, .ref q3, .int w4, .int w5, .ref q4, .int w7, .ref q5, .ref q6, .ref q7, .int w11, .int w12, .int w13, .int w14, .ref q8, .int w16])), (q1, .inl (G.2.2.1, 946, .inl w0)), (q2, .inl (G.2.2.1, 5676, .inl w1)), (q3, .inl (G.2.2.1, 60, .inl w3)), (q4, .inl (G.2.2.1, 201, .inl w6)), (q5, .inl (G.2.2.1, 201, .inl w8)), (q6, .inl (G.2.2.1, 201, .inl w9)), (q7, .inl (G.2.2.1, 201, .inl w10)), (q8, .inl (G.2.2.1, 201, .inl w15))] 26 [(0, .ref q0), (1, .int y1)] [.int z0] := by
    intro y1 z0 w0 w1 w2 w3 w4 w5 w6 w7 w8 w9 w10 w11 w12 w13 w14 w15 w16 hf
    unfold zf_X8_unshiftOnSpace_b26 at hf
    refine zg_istore_n (L' := [(2, .int z0), (0, .ref q0), (1, .int y1)]) X dX8_unshiftOnSpace_26 rfl (by decide) rfl ?_
    refine zg_aload_n X dX8_unshiftOnSpace_27 rfl 1 rfl ?_
    refine zg_get (C := RX8) (T := TX8) (N := 17) X 0 0 hiX8 rfl rfl (by decide) hw1 rfl dX8_unshiftOnSpace_28 ?_
    refine zg_sipush (v := 604) X dX8_unshiftOnSpace_31 (by decide) ?_
    refine zg_iload_n X dX8_unshiftOnSpace_34 rfl 2 rfl ?_
    refine zg_if_eq (tgt := 42) X dX8_unshiftOnSpace_35 (by decide) (fun c4 => ?_) (fun c4 => ?_)
    · have hf := pl_t c4 hf
      refine zg_iconst (v := 0) X dX8_unshiftOnSpace_42 (by decide) ?_
      refine zg_loc [0] rfl ?_
      exact hb43 z0 604 0 w0 w1 w2 w3 w4 w5 w6 w7 w8 w9 w10 w11 w12 w13 w14 w15 w16 hf
    · have hf := pl_f c4 hf
      refine zg_iconst (v := 1) X dX8_unshiftOnSpace_38 (by decide) ?_
      refine zg_goto (tgt := 43) X dX8_unshiftOnSpace_39 (by decide) ?_
      refine zg_loc [0] rfl ?_
      exact hb43 z0 604 1 w0 w1 w2 w3 w4 w5 w6 w7 w8 w9 w10 w11 w12 w13 w14 w15 w16 hf
  unfold zf_X8_unshiftOnSpace at hf
  refine zg_aload_n X dX8_unshiftOnSpace_0 rfl 0 rfl ?_
  refine zg_iconst (v := 0) X dX8_unshiftOnSpace_1 (by decide) ?_
  refine zg_put (C := RX8) (T := TX8) (N := 17) (ty := .int) (ws' := [(q0, .inr (7, [.ref q1, .ref q2, .int v0.2.2.1, .ref q3, .int v0.2.2.2.2.1, .int 0, .ref q4, .int v0.2.2.2.2.2.2.2.1, .ref q5, .ref q6, .ref q7, .int v0.2.2.2.2.2.2.2.2.2.2.2.1, .int v0.2.2.2.2.2.2.2.2.2.2.2.2.1, .int v0.2.2.2.2.2.2.2.2.2.2.2.2.2.1, .int v0.2.2.2.2.2.2.2.2.2.2.2.2.2.2.1, .ref q8, .int v0.2.2.2.2.2.2.2.2.2.2.2.2.2.2.2.2])), (q1, .inl (G.2.2.1, 946, .inl v0.1)), (q2, .inl (G.2.2.1, 5676, .inl v0.2.1)), (q3, .inl (G.2.2.1, 60, .inl v0.2.2.2.1)), (q4, .inl (G.2.2.1, 201, .inl v0.2.2.2.2.2.2.1)), (q5, .inl (G.2.2.1, 201, .inl v0.2.2.2.2.2.2.2.2.1)), (q6, .inl (G.2.2.1, 201, .inl v0.2.2.2.2.2.2.2.2.2.1)), (q7, .inl (G.2.2.1, 201, .inl v0.2.2.2.2.2.2.2.2.2.2.1)), (q8, .inl (G.2.2.1, 201, .inl v0.2.2.2.2.2.2.2.2.2.2.2.2.2.2.2.1))]) X 0 5 hiX8 tyX8 tyX8_ok nmX8 rfl rfl (by decide) hw0 rfl (by decide +kernel) rfl rfl (Nat.le_of_ble_eq_true rfl) rfl dX8_unshiftOnSpace_2 ?_
  refine zg_aload_n X dX8_unshiftOnSpace_5 rfl 0 rfl ?_
  obtain ⟨b1, hb1, hf⟩ := pl_b hf
  refine zg_cU0 (ws2 := [(q0, .inr (7, [.ref q1, .ref q2, .int b1.2.2.1, .ref q3, .int b1.2.2.2.2.1, .int b1.2.2.2.2.2.1, .ref q4, .int b1.2.2.2.2.2.2.2.1, .ref q5, .ref q6, .ref q7, .int b1.2.2.2.2.2.2.2.2.2.2.2.1, .int b1.2.2.2.2.2.2.2.2.2.2.2.2.1, .int b1.2.2.2.2.2.2.2.2.2.2.2.2.2.1, .int b1.2.2.2.2.2.2.2.2.2.2.2.2.2.2.1, .ref q8, .int b1.2.2.2.2.2.2.2.2.2.2.2.2.2.2.2.2])), (q1, .inl (G.2.2.1, 946, .inl b1.1)), (q2, .inl (G.2.2.1, 5676, .inl b1.2.1)), (q3, .inl (G.2.2.1, 60, .inl b1.2.2.2.1)), (q4, .inl (G.2.2.1, 201, .inl b1.2.2.2.2.2.2.1)), (q5, .inl (G.2.2.1, 201, .inl b1.2.2.2.2.2.2.2.2.1)), (q6, .inl (G.2.2.1, 201, .inl b1.2.2.2.2.2.2.2.2.2.1)), (q7, .inl (G.2.2.1, 201, .inl b1.2.2.2.2.2.2.2.2.2.2.1)), (q8, .inl (G.2.2.1, 201, .inl b1.2.2.2.2.2.2.2.2.2.2.2.2.2.2.2.1))]) X (zg_runV X (zc_X8_saves G q0 q1 q2 q3 q4 q5 q6 q7 q8 (v0.1, v0.2.1, v0.2.2.1, v0.2.2.2.1, v0.2.2.2.2.1, 0, v0.2.2.2.2.2.2.1, v0.2.2.2.2.2.2.2.1, v0.2.2.2.2.2.2.2.2.1, v0.2.2.2.2.2.2.2.2.2.1, v0.2.2.2.2.2.2.2.2.2.2.1, v0.2.2.2.2.2.2.2.2.2.2.2.1, v0.2.2.2.2.2.2.2.2.2.2.2.2.1, v0.2.2.2.2.2.2.2.2.2.2.2.2.2.1, v0.2.2.2.2.2.2.2.2.2.2.2.2.2.2.1, v0.2.2.2.2.2.2.2.2.2.2.2.2.2.2.2.1, v0.2.2.2.2.2.2.2.2.2.2.2.2.2.2.2.2) fu b1 hb1) gX8_unshiftOnSpace_X8_saves rfl zh_X8_saves ⟨rfl, rfl⟩ ⟨Nat.le_of_ble_eq_true rfl, Nat.le_of_ble_eq_true rfl⟩ rfl rfl rfl (Nat.le_of_ble_eq_true rfl) ⟨Nat.le_of_ble_eq_true rfl, Nat.le_of_ble_eq_true rfl⟩ [0, 1, 2, 3, 4, 5, 6, 7, 8] (by decide) rfl rfl dX8_unshiftOnSpace_6) rfl rfl ?_
  refine zg_aload_n X dX8_unshiftOnSpace_9 rfl 0 rfl ?_
  refine zg_get (C := RX8) (T := TX8) (N := 17) X 0 0 hiX8 rfl rfl (by decide) hw1 rfl dX8_unshiftOnSpace_10 ?_
  refine zg_sipush (v := 604) X dX8_unshiftOnSpace_13 (by decide) ?_
  refine zg_iald X 1 rfl (by unfold vp_in; decide) dX8_unshiftOnSpace_16 ?_
  obtain ⟨x2, ex2, hf⟩ := pl_l hf
  refine zg_topi ex2 ?_
  refine zg_iconst (v := 1) X dX8_unshiftOnSpace_17 (by decide) ?_
  refine zg_icmp_ne (tgt := 25) X dX8_unshiftOnSpace_18 (by decide) (fun c3 => ?_) (fun c3 => ?_)
  · have hf := pl_f c3 hf
    refine zg_iconst (v := 0) X dX8_unshiftOnSpace_25 (by decide) ?_
    exact hb26 a1 0 b1.1 b1.2.1 b1.2.2.1 b1.2.2.2.1 b1.2.2.2.2.1 b1.2.2.2.2.2.1 b1.2.2.2.2.2.2.1 b1.2.2.2.2.2.2.2.1 b1.2.2.2.2.2.2.2.2.1 b1.2.2.2.2.2.2.2.2.2.1 b1.2.2.2.2.2.2.2.2.2.2.1 b1.2.2.2.2.2.2.2.2.2.2.2.1 b1.2.2.2.2.2.2.2.2.2.2.2.2.1 b1.2.2.2.2.2.2.2.2.2.2.2.2.2.1 b1.2.2.2.2.2.2.2.2.2.2.2.2.2.2.1 b1.2.2.2.2.2.2.2.2.2.2.2.2.2.2.2.1 b1.2.2.2.2.2.2.2.2.2.2.2.2.2.2.2.2 hf
  · have hf := pl_t c3 hf
    refine zg_iconst (v := 1) X dX8_unshiftOnSpace_21 (by decide) ?_
    refine zg_goto (tgt := 26) X dX8_unshiftOnSpace_22 (by decide) ?_
    exact hb26 a1 1 b1.1 b1.2.1 b1.2.2.1 b1.2.2.2.1 b1.2.2.2.2.1 b1.2.2.2.2.2.1 b1.2.2.2.2.2.2.1 b1.2.2.2.2.2.2.2.1 b1.2.2.2.2.2.2.2.2.1 b1.2.2.2.2.2.2.2.2.2.1 b1.2.2.2.2.2.2.2.2.2.2.1 b1.2.2.2.2.2.2.2.2.2.2.2.1 b1.2.2.2.2.2.2.2.2.2.2.2.2.1 b1.2.2.2.2.2.2.2.2.2.2.2.2.2.1 b1.2.2.2.2.2.2.2.2.2.2.2.2.2.2.1 b1.2.2.2.2.2.2.2.2.2.2.2.2.2.2.2.1 b1.2.2.2.2.2.2.2.2.2.2.2.2.2.2.2.2 hf
theorem zh_X8_known : yX8_known.cls = RX8 ∧ yX8_known.cls ≠ "java/lang/invoke/MethodHandle" ∧ yX8_known.cls ≠ "java/lang/invoke/VarHandle" ∧ (parseMethodDescriptor yX8_known.desc).map (fun d => d.parameters.length) = some 0 := by decide +kernel
set_option maxHeartbeats 8000000 in
set_option maxRecDepth 100000 in
theorem zc_X8_known (G : zgG) (q0 q1 q2 q3 q4 q5 q6 q7 q8 : Nat) (v0 : zModel) (fu : Nat) (res : Int32) (hf : zf_X8_known fu v0 = some res) : zgCt G yX8_known wsX8_known ({ frames := 3, cells := 0, slots := 0, locals := 62 } : Room) [.ref q0] [(q0, .inr (7, [.ref q1, .ref q2, .int v0.2.2.1, .ref q3, .int v0.2.2.2.2.1, .int v0.2.2.2.2.2.1, .ref q4, .int v0.2.2.2.2.2.2.2.1, .ref q5, .ref q6, .ref q7, .int v0.2.2.2.2.2.2.2.2.2.2.2.1, .int v0.2.2.2.2.2.2.2.2.2.2.2.2.1, .int v0.2.2.2.2.2.2.2.2.2.2.2.2.2.1, .int v0.2.2.2.2.2.2.2.2.2.2.2.2.2.2.1, .ref q8, .int v0.2.2.2.2.2.2.2.2.2.2.2.2.2.2.2.2])), (q1, .inl (G.2.2.1, 946, .inl v0.1)), (q2, .inl (G.2.2.1, 5676, .inl v0.2.1)), (q3, .inl (G.2.2.1, 60, .inl v0.2.2.2.1)), (q4, .inl (G.2.2.1, 201, .inl v0.2.2.2.2.2.2.1)), (q5, .inl (G.2.2.1, 201, .inl v0.2.2.2.2.2.2.2.2.1)), (q6, .inl (G.2.2.1, 201, .inl v0.2.2.2.2.2.2.2.2.2.1)), (q7, .inl (G.2.2.1, 201, .inl v0.2.2.2.2.2.2.2.2.2.2.1)), (q8, .inl (G.2.2.1, 201, .inl v0.2.2.2.2.2.2.2.2.2.2.2.2.2.2.2.1))] (fun _ : Unit => some (.int res)) (fun _ => [(q0, .inr (7, [.ref q1, .ref q2, .int v0.2.2.1, .ref q3, .int v0.2.2.2.2.1, .int v0.2.2.2.2.2.1, .ref q4, .int v0.2.2.2.2.2.2.2.1, .ref q5, .ref q6, .ref q7, .int v0.2.2.2.2.2.2.2.2.2.2.2.1, .int v0.2.2.2.2.2.2.2.2.2.2.2.2.1, .int v0.2.2.2.2.2.2.2.2.2.2.2.2.2.1, .int v0.2.2.2.2.2.2.2.2.2.2.2.2.2.2.1, .ref q8, .int v0.2.2.2.2.2.2.2.2.2.2.2.2.2.2.2.2])), (q1, .inl (G.2.2.1, 946, .inl v0.1)), (q2, .inl (G.2.2.1, 5676, .inl v0.2.1)), (q3, .inl (G.2.2.1, 60, .inl v0.2.2.2.1)), (q4, .inl (G.2.2.1, 201, .inl v0.2.2.2.2.2.2.1)), (q5, .inl (G.2.2.1, 201, .inl v0.2.2.2.2.2.2.2.2.1)), (q6, .inl (G.2.2.1, 201, .inl v0.2.2.2.2.2.2.2.2.2.1)), (q7, .inl (G.2.2.1, 201, .inl v0.2.2.2.2.2.2.2.2.2.2.1)), (q8, .inl (G.2.2.1, 201, .inl v0.2.2.2.2.2.2.2.2.2.2.2.2.2.2.2.1))]) 0 0 := by
  have hw0 : Cond.fieldLink RX8 7 "TelexReceiverModel" "s" "[I" ∈ wsX8_known := by decide +kernel
  have hw1 : Cond.fieldLink RX8 62 "TelexReceiverModel" "length" "I" ∈ wsX8_known := by decide +kernel
  have hw2 : Cond.fieldLink RX8 16 "TelexReceiverModel" "buffer" "[I" ∈ wsX8_known := by decide +kernel
  have hiX8 : ∀ w ∈ u_ws RX8 TX8 17, w ∈ wsX8_known := by decide +kernel
  refine zg_of (own := RX8) (cc := cX8_known) (nL := 4) (ret := (some .int)) (by decide +kernel) rfl rfl (Nat.le_of_ble_eq_true rfl) (fun Z X hF => ?_)
  show zgGd G Z _ 0 0 4 _ 0 [(0, .ref q0)] []
  have hL4 : ∀ (n : Nat) (y1 : Int32) (y2 : Int32), zf_X8_known_L4 fu v0 n y1 y2 = some res → zgGd G Z ({ frames := 3, cells := 0, slots := 0, locals := 62 } : Room) 0 0 4 [(q0, .inr (7, [.ref q1, .ref q2, .int v0.2.2.1, .ref q3, .int v0.2.2.2.2.1, .int v0.2.2.2.2.2.1, .ref q4, .int v0.2.2.2.2.2.2.2.1, .ref q5, .ref q6, .ref q7, .int v0.2.2.2.2.2.2.2.2.2.2.2.1, .int v0.2.2.2.2.2.2.2.2.2.2.2.2.1, .int v0.2.2.2.2.2.2.2.2.2.2.2.2.2.1, .int v0.2.2.2.2.2.2.2.2.2.2.2.2.2.2.1, .ref q8, .int v0.2.2.2.2.2.2.2.2.2.2.2.2.2.2.2.2])), (q1, .inl (G.2.2.1, 946, .inl v0.1)), (q2, .inl (G.2.2.1, 5676, .inl v0.2.1)), (q3, .inl (G.2.2.1, 60, .inl v0.2.2.2.1)), (q4, .inl (G.2.2.1, 201, .inl v0.2.2.2.2.2.2.1)), (q5, .inl (G.2.2.1, 201, .inl v0.2.2.2.2.2.2.2.2.1)), (q6, .inl (G.2.2.1, 201, .inl v0.2.2.2.2.2.2.2.2.2.1)), (q7, .inl (G.2.2.1, 201, .inl v0.2.2.2.2.2.2.2.2.2.2.1)), (q8, .inl (G.2.2.1, 201, .inl v0.2.2.2.2.2.2.2.2.2.2.2.2.2.2.2.1))] 4 [(0, .ref q0), (1, .int y1), (2, .int y2)] [] := by
    intro n
    induction n with
    | zero =>
      intro y1 y2 hf
      rw [zf_X8_known_L4] at hf
      cases hf
    | succ n4 ih4 =>
      have hb106 : ∀ (y2 : Int32) (z0 : Int32) (z1 : Int32), zf_X8_known_b106 fu v0 (zf_X8_known_L4 fu v0 n4) y2 z0 z1 = some res → zgGd G Z ({ frames := 3, cells := 0, slots := 0, locals := 62 } : Room) 0 0 4 [(q0, .inr (7, [.ref q1, .ref q2, .int v0.2.2.1, .ref q3, .int v0.2.2.2.2.1, .int v0.2.2.2.2.2.1, .ref q4, .int v0.2.2.2.2.2.2.2.1, .ref q5, .ref q6, .ref q7, .int v0.2.2.2.2.2.2.2.2.2.2.2.1, .int v0.2.2.2.2.2.2.2.2.2.2.2.2.1, .int v0.2.2.2.2.2.2.2.2.2.2.2.2.2.1, .int v0.2.2.2.2.2.2.2.2.2.2.2.2.2.2.1, .ref q8, .int v0.2.2.2.2.2.2.2.2.2.2.2.2.2.2.2.2])), (q1, .inl (G.2.2.1, 946, .inl v0.1)), (q2, .inl (G.2.2.1, 5676, .inl v0.2.1)), (q3, .inl (G.2.2.1, 60, .inl v0.2.2.2.1)), (q4, .inl (G.2.2.1, 201, .inl v0.2.2.2.2.2.2.1)), (q5, .inl (G.2.2.1, 201, .inl v0.2.2.2.2.2.2.2.2.1)), (q6, .inl (G.2.2.1, 201, .inl v0.2.2.2.2.2.2.2.2.2.1)), (q7, .inl (G.2.2.1, 201, .inl v0.2.2.2.2.2.2.2.2.2.2.1)), (q8, .inl (G.2.2.1, 201, .inl v0.2.2.2.2.2.2.2.2.2.2.2.2.2.2.2.1))] 106 [(0, .ref q0), (2, .int y2)] [.int z1, .int z0] := by
        intro y2 z0 z1 hf
        unfold zf_X8_known_b106 at hf
        refine zg_iadd X dX8_known_106 ?_
        obtain ⟨x16, ex16, hf⟩ := pl_l hf
        refine zg_topi ex16 ?_
        refine zg_istore_n (L' := [(1, .int x16), (0, .ref q0), (2, .int y2)]) X dX8_known_107 rfl (by decide) rfl ?_
        refine zg_goto (tgt := 4) X dX8_known_108 (by decide) ?_
        refine zg_loc [1, 0, 2] rfl ?_
        exact ih4 x16 y2 hf
      have hb96 : ∀ (y1 : Int32) (y2 : Int32), zf_X8_known_b96 fu v0 (zf_X8_known_L4 fu v0 n4) y1 y2 = some res → zgGd G Z ({ frames := 3, cells := 0, slots := 0, locals := 62 } : Room) 0 0 4 [(q0, .inr (7, [.ref q1, .ref q2, .int v0.2.2.1, .ref q3, .int v0.2.2.2.2.1, .int v0.2.2.2.2.2.1, .ref q4, .int v0.2.2.2.2.2.2.2.1, .ref q5, .ref q6, .ref q7, .int v0.2.2.2.2.2.2.2.2.2.2.2.1, .int v0.2.2.2.2.2.2.2.2.2.2.2.2.1, .int v0.2.2.2.2.2.2.2.2.2.2.2.2.2.1, .int v0.2.2.2.2.2.2.2.2.2.2.2.2.2.2.1, .ref q8, .int v0.2.2.2.2.2.2.2.2.2.2.2.2.2.2.2.2])), (q1, .inl (G.2.2.1, 946, .inl v0.1)), (q2, .inl (G.2.2.1, 5676, .inl v0.2.1)), (q3, .inl (G.2.2.1, 60, .inl v0.2.2.2.1)), (q4, .inl (G.2.2.1, 201, .inl v0.2.2.2.2.2.2.1)), (q5, .inl (G.2.2.1, 201, .inl v0.2.2.2.2.2.2.2.2.1)), (q6, .inl (G.2.2.1, 201, .inl v0.2.2.2.2.2.2.2.2.2.1)), (q7, .inl (G.2.2.1, 201, .inl v0.2.2.2.2.2.2.2.2.2.2.1)), (q8, .inl (G.2.2.1, 201, .inl v0.2.2.2.2.2.2.2.2.2.2.2.2.2.2.2.1))] 96 [(0, .ref q0), (1, .int y1), (2, .int y2)] [] := by
        intro y1 y2 hf
        unfold zf_X8_known_b96 at hf
        refine zg_iload_n X dX8_known_96 rfl 1 rfl ?_
        refine zg_iload_n X dX8_known_97 rfl 2 rfl ?_
        refine zg_if_eq (tgt := 105) X dX8_known_98 (by decide) (fun c14 => ?_) (fun c14 => ?_)
        · have hf := pl_t c14 hf
          refine zg_iconst (v := 1) X dX8_known_105 (by decide) ?_
          refine zg_loc [0, 2] rfl ?_
          exact hb106 y2 y1 1 hf
        · have hf := pl_f c14 hf
          refine zg_iconst (v := 0) X dX8_known_101 (by decide) ?_
          refine zg_goto (tgt := 106) X dX8_known_102 (by decide) ?_
          refine zg_loc [0, 2] rfl ?_
          exact hb106 y2 y1 0 hf
      have hL45 : ∀ (n : Nat) (y1 : Int32) (y2 : Int32) (y3 : Int32), zf_X8_known_L45 fu v0 (zf_X8_known_L4 fu v0 n4) n y1 y2 y3 = some res → zgGd G Z ({ frames := 3, cells := 0, slots := 0, locals := 62 } : Room) 0 0 4 [(q0, .inr (7, [.ref q1, .ref q2, .int v0.2.2.1, .ref q3, .int v0.2.2.2.2.1, .int v0.2.2.2.2.2.1, .ref q4, .int v0.2.2.2.2.2.2.2.1, .ref q5, .ref q6, .ref q7, .int v0.2.2.2.2.2.2.2.2.2.2.2.1, .int v0.2.2.2.2.2.2.2.2.2.2.2.2.1, .int v0.2.2.2.2.2.2.2.2.2.2.2.2.2.1, .int v0.2.2.2.2.2.2.2.2.2.2.2.2.2.2.1, .ref q8, .int v0.2.2.2.2.2.2.2.2.2.2.2.2.2.2.2.2])), (q1, .inl (G.2.2.1, 946, .inl v0.1)), (q2, .inl (G.2.2.1, 5676, .inl v0.2.1)), (q3, .inl (G.2.2.1, 60, .inl v0.2.2.2.1)), (q4, .inl (G.2.2.1, 201, .inl v0.2.2.2.2.2.2.1)), (q5, .inl (G.2.2.1, 201, .inl v0.2.2.2.2.2.2.2.2.1)), (q6, .inl (G.2.2.1, 201, .inl v0.2.2.2.2.2.2.2.2.2.1)), (q7, .inl (G.2.2.1, 201, .inl v0.2.2.2.2.2.2.2.2.2.2.1)), (q8, .inl (G.2.2.1, 201, .inl v0.2.2.2.2.2.2.2.2.2.2.2.2.2.2.2.1))] 45 [(0, .ref q0), (1, .int y1), (2, .int y2), (3, .int y3)] [] := by
        intro n
        induction n with
        | zero =>
          intro y1 y2 y3 hf
          rw [zf_X8_known_L45] at hf
          cases hf
        | succ n45 ih45 =>
          have hb89 : ∀ (y1 : Int32) (y3 : Int32) (z0 : Int32), zf_X8_known_b89 fu v0 (zf_X8_known_L4 fu v0 n4) (zf_X8_known_L45 fu v0 (zf_X8_known_L4 fu v0 n4) n45) y1 y3 z0 = some res → zgGd G Z ({ frames := 3, cells := 0, slots := 0, locals := 62 } : Room) 0 0 4 [(q0, .inr (7, [.ref q1, .ref q2, .int v0.2.2.1, .ref q3, .int v0.2.2.2.2.1, .int v0.2.2.2.2.2.1, .ref q4, .int v0.2.2.2.2.2.2.2.1, .ref q5, .ref q6, .ref q7, .int v0.2.2.2.2.2.2.2.2.2.2.2.1, .int v0.2.2.2.2.2.2.2.2.2.2.2.2.1, .int v0.2.2.2.2.2.2.2.2.2.2.2.2.2.1, .int v0.2.2.2.2.2.2.2.2.2.2.2.2.2.2.1, .ref q8, .int v0.2.2.2.2.2.2.2.2.2.2.2.2.2.2.2.2])), (q1, .inl (G.2.2.1, 946, .inl v0.1)), (q2, .inl (G.2.2.1, 5676, .inl v0.2.1)), (q3, .inl (G.2.2.1, 60, .inl v0.2.2.2.1)), (q4, .inl (G.2.2.1, 201, .inl v0.2.2.2.2.2.2.1)), (q5, .inl (G.2.2.1, 201, .inl v0.2.2.2.2.2.2.2.2.1)), (q6, .inl (G.2.2.1, 201, .inl v0.2.2.2.2.2.2.2.2.2.1)), (q7, .inl (G.2.2.1, 201, .inl v0.2.2.2.2.2.2.2.2.2.2.1)), (q8, .inl (G.2.2.1, 201, .inl v0.2.2.2.2.2.2.2.2.2.2.2.2.2.2.2.1))] 89 [(0, .ref q0), (1, .int y1), (3, .int y3)] [.int z0] := by
            intro y1 y3 z0 hf
            unfold zf_X8_known_b89 at hf
            refine zg_istore_n (L' := [(2, .int z0), (0, .ref q0), (1, .int y1), (3, .int y3)]) X dX8_known_89 rfl (by decide) rfl ?_
            obtain ⟨x15, ex15, hf⟩ := pl_l hf
            refine zg_iinc (v := x15) (L' := [(3, .int x15), (2, .int z0), (0, .ref q0), (1, .int y1)]) X dX8_known_90 (j := 3) rfl (by rw [ex15]; rfl) (by decide) rfl ?_
            refine zg_goto (tgt := 45) X dX8_known_93 (by decide) ?_
            refine zg_loc [2, 3, 1, 0] rfl ?_
            exact ih45 y1 z0 x15 hf
          intro y1 y2 y3 hf
          rw [zf_X8_known_L45] at hf
          refine zg_iload_n X dX8_known_45 rfl 3 rfl ?_
          refine zg_aload_n X dX8_known_46 rfl 0 rfl ?_
          refine zg_get (C := RX8) (T := TX8) (N := 17) X 0 4 hiX8 rfl rfl (by decide) hw1 rfl dX8_known_47 ?_
          refine zg_icmp_ge (tgt := 96) X dX8_known_50 (by decide) (fun c7 => ?_) (fun c7 => ?_)
          · have hf := pl_t c7 hf
            refine zg_loc [0, 1, 2] rfl ?_
            exact hb96 y1 y2 hf
          · have hf := pl_f c7 hf
            refine zg_iload_n X dX8_known_53 rfl 2 rfl ?_
            refine zg_if_eq (tgt := 96) X dX8_known_54 (by decide) (fun c8 => ?_) (fun c8 => ?_)
            · have hf := pl_t c8 hf
              refine zg_loc [0, 1, 2] rfl ?_
              exact hb96 y1 y2 hf
            · have hf := pl_f c8 hf
              refine zg_aload_n X dX8_known_57 rfl 0 rfl ?_
              refine zg_get (C := RX8) (T := TX8) (N := 17) X 0 0 hiX8 rfl rfl (by decide) hw0 rfl dX8_known_58 ?_
              refine zg_sipush (v := 826) X dX8_known_61 (by decide) ?_
              refine zg_bipush (v := 6) X dX8_known_64 (by decide) ?_
              refine zg_iload_n X dX8_known_66 rfl 1 rfl ?_
              refine zg_imul X dX8_known_67 ?_
              refine zg_iadd X dX8_known_68 ?_
              refine zg_iload_n X dX8_known_69 rfl 3 rfl ?_
              refine zg_iadd X dX8_known_70 ?_
              obtain ⟨x9, ex9, hf⟩ := pl_l hf
              refine zg_topi ex9 ?_
              obtain ⟨hin, hf⟩ := pl_in hf
              refine zg_iald X 1 rfl hin dX8_known_71 ?_
              obtain ⟨x10, ex10, hf⟩ := pl_l hf
              refine zg_topi ex10 ?_
              refine zg_aload_n X dX8_known_72 rfl 0 rfl ?_
              refine zg_get (C := RX8) (T := TX8) (N := 17) X 0 3 hiX8 rfl rfl (by decide) hw2 rfl dX8_known_73 ?_
              refine zg_iload_n X dX8_known_76 rfl 3 rfl ?_
              obtain ⟨hin, hf⟩ := pl_in hf
              refine zg_iald X 3 rfl hin dX8_known_77 ?_
              obtain ⟨x11, ex11, hf⟩ := pl_l hf
              refine zg_topi ex11 ?_
              obtain ⟨b12, hb12, hf⟩ := pl_b hf
              refine zg_cP1 X (zg_runS X (zc_X8_codeOf G x11 fu b12 hb12) gX8_known_X8_codeOf rfl zh_X8_codeOf.2 ⟨rfl, rfl⟩ ⟨Nat.le_of_ble_eq_true rfl, Nat.le_of_ble_eq_true rfl⟩ rfl (Nat.le_of_ble_eq_true rfl) ⟨Nat.le_of_ble_eq_true rfl, Nat.le_of_ble_eq_true rfl⟩ [] (by decide) rfl rfl dX8_known_78) rfl ?_
              refine zg_icmp_ne (tgt := 88) X dX8_known_81 (by decide) (fun c13 => ?_) (fun c13 => ?_)
              · have hf := pl_f c13 hf
                refine zg_iconst (v := 0) X dX8_known_88 (by decide) ?_
                refine zg_loc [0, 1, 3] rfl ?_
                exact hb89 y1 y3 0 hf
              · have hf := pl_t c13 hf
                refine zg_iconst (v := 1) X dX8_known_84 (by decide) ?_
                refine zg_goto (tgt := 89) X dX8_known_85 (by decide) ?_
                refine zg_loc [0, 1, 3] rfl ?_
                exact hb89 y1 y3 1 hf
      have hb42 : ∀ (y1 : Int32) (z0 : Int32), zf_X8_known_b42 fu v0 (zf_X8_known_L4 fu v0 n4) y1 z0 = some res → zgGd G Z ({ frames := 3, cells := 0, slots := 0, locals := 62 } : Room) 0 0 4 [(q0, .inr (7, [.ref q1, .ref q2, .int v0.2.2.1, .ref q3, .int v0.2.2.2.2.1, .int v0.2.2.2.2.2.1, .ref q4, .int v0.2.2.2.2.2.2.2.1, .ref q5, .ref q6, .ref q7, .int v0.2.2.2.2.2.2.2.2.2.2.2.1, .int v0.2.2.2.2.2.2.2.2.2.2.2.2.1, .int v0.2.2.2.2.2.2.2.2.2.2.2.2.2.1, .int v0.2.2.2.2.2.2.2.2.2.2.2.2.2.2.1, .ref q8, .int v0.2.2.2.2.2.2.2.2.2.2.2.2.2.2.2.2])), (q1, .inl (G.2.2.1, 946, .inl v0.1)), (q2, .inl (G.2.2.1, 5676, .inl v0.2.1)), (q3, .inl (G.2.2.1, 60, .inl v0.2.2.2.1)), (q4, .inl (G.2.2.1, 201, .inl v0.2.2.2.2.2.2.1)), (q5, .inl (G.2.2.1, 201, .inl v0.2.2.2.2.2.2.2.2.1)), (q6, .inl (G.2.2.1, 201, .inl v0.2.2.2.2.2.2.2.2.2.1)), (q7, .inl (G.2.2.1, 201, .inl v0.2.2.2.2.2.2.2.2.2.2.1)), (q8, .inl (G.2.2.1, 201, .inl v0.2.2.2.2.2.2.2.2.2.2.2.2.2.2.2.1))] 42 [(0, .ref q0), (1, .int y1)] [.int z0] := by
        intro y1 z0 hf
        unfold zf_X8_known_b42 at hf
        refine zg_istore_n (L' := [(2, .int z0), (0, .ref q0), (1, .int y1)]) X dX8_known_42 rfl (by decide) rfl ?_
        refine zg_iconst (v := 0) X dX8_known_43 (by decide) ?_
        refine zg_istore_n (L' := [(3, .int 0), (2, .int z0), (0, .ref q0), (1, .int y1)]) X dX8_known_44 rfl (by decide) rfl ?_
        refine zg_loc [2, 3, 1, 0] rfl ?_
        exact hL45 fu y1 z0 0 hf
      intro y1 y2 hf
      rw [zf_X8_known_L4] at hf
      refine zg_iload_n X dX8_known_4 rfl 1 rfl ?_
      refine zg_aload_n X dX8_known_5 rfl 0 rfl ?_
      refine zg_get (C := RX8) (T := TX8) (N := 17) X 0 0 hiX8 rfl rfl (by decide) hw0 rfl dX8_known_6 ?_
      refine zg_sipush (v := 805) X dX8_known_9 (by decide) ?_
      refine zg_iald X 1 rfl (by unfold vp_in; decide) dX8_known_12 ?_
      obtain ⟨x1, ex1, hf⟩ := pl_l hf
      refine zg_topi ex1 ?_
      refine zg_icmp_ge (tgt := 111) X dX8_known_13 (by decide) (fun c2 => ?_) (fun c2 => ?_)
      · have hf := pl_t c2 hf
        refine zg_iload_n X dX8_known_111 rfl 1 rfl ?_
        have hf := Option.some.inj hf
        subst hf
        exact zg_iret X hF rfl rfl () rfl rfl (Nat.le_of_ble_eq_true rfl) (Nat.le_of_ble_eq_true rfl) dX8_known_112
      · have hf := pl_f c2 hf
        refine zg_iload_n X dX8_known_16 rfl 2 rfl ?_
        refine zg_if_ne (tgt := 111) X dX8_known_17 (by decide) (fun c3 => ?_) (fun c3 => ?_)
        · have hf := pl_f c3 hf
          refine zg_iload_n X dX8_known_111 rfl 1 rfl ?_
          have hf := Option.some.inj hf
          subst hf
          exact zg_iret X hF rfl rfl () rfl rfl (Nat.le_of_ble_eq_true rfl) (Nat.le_of_ble_eq_true rfl) dX8_known_112
        · have hf := pl_t c3 hf
          refine zg_aload_n X dX8_known_20 rfl 0 rfl ?_
          refine zg_get (C := RX8) (T := TX8) (N := 17) X 0 0 hiX8 rfl rfl (by decide) hw0 rfl dX8_known_21 ?_
          refine zg_sipush (v := 806) X dX8_known_24 (by decide) ?_
          refine zg_iload_n X dX8_known_27 rfl 1 rfl ?_
          refine zg_iadd X dX8_known_28 ?_
          obtain ⟨x4, ex4, hf⟩ := pl_l hf
          refine zg_topi ex4 ?_
          obtain ⟨hin, hf⟩ := pl_in hf
          refine zg_iald X 1 rfl hin dX8_known_29 ?_
          obtain ⟨x5, ex5, hf⟩ := pl_l hf
          refine zg_topi ex5 ?_
          refine zg_aload_n X dX8_known_30 rfl 0 rfl ?_
          refine zg_get (C := RX8) (T := TX8) (N := 17) X 0 4 hiX8 rfl rfl (by decide) hw1 rfl dX8_known_31 ?_
          refine zg_icmp_ne (tgt := 41) X dX8_known_34 (by decide) (fun c6 => ?_) (fun c6 => ?_)
          · have hf := pl_f c6 hf
            refine zg_iconst (v := 0) X dX8_known_41 (by decide) ?_
            refine zg_loc [0, 1] rfl ?_
            exact hb42 y1 0 hf
          · have hf := pl_t c6 hf
            refine zg_iconst (v := 1) X dX8_known_37 (by decide) ?_
            refine zg_goto (tgt := 42) X dX8_known_38 (by decide) ?_
            refine zg_loc [0, 1] rfl ?_
            exact hb42 y1 1 hf
  unfold zf_X8_known at hf
  refine zg_iconst (v := 0) X dX8_known_0 (by decide) ?_
  refine zg_istore_n (L' := [(1, .int 0), (0, .ref q0)]) X dX8_known_1 rfl (by decide) rfl ?_
  refine zg_iconst (v := 0) X dX8_known_2 (by decide) ?_
  refine zg_istore_n (L' := [(2, .int 0), (1, .int 0), (0, .ref q0)]) X dX8_known_3 rfl (by decide) rfl ?_
  refine zg_loc [2, 1, 0] rfl ?_
  exact hL4 fu 0 0 hf
theorem zh_X8_hasWord : yX8_hasWord.cls = RX8 ∧ yX8_hasWord.cls ≠ "java/lang/invoke/MethodHandle" ∧ yX8_hasWord.cls ≠ "java/lang/invoke/VarHandle" ∧ (parseMethodDescriptor yX8_hasWord.desc).map (fun d => d.parameters.length) = some 0 := by decide +kernel
set_option maxHeartbeats 8000000 in
set_option maxRecDepth 100000 in
theorem zc_X8_hasWord (G : zgG) (q0 q1 q2 q3 q4 q5 q6 q7 q8 : Nat) (v0 : zModel) (fu : Nat) (res : Int32) (hf : zf_X8_hasWord fu v0 = some res) : zgCt G yX8_hasWord wsX8_hasWord ({ frames := 2, cells := 0, slots := 0, locals := 42 } : Room) [.ref q0] [(q0, .inr (7, [.ref q1, .ref q2, .int v0.2.2.1, .ref q3, .int v0.2.2.2.2.1, .int v0.2.2.2.2.2.1, .ref q4, .int v0.2.2.2.2.2.2.2.1, .ref q5, .ref q6, .ref q7, .int v0.2.2.2.2.2.2.2.2.2.2.2.1, .int v0.2.2.2.2.2.2.2.2.2.2.2.2.1, .int v0.2.2.2.2.2.2.2.2.2.2.2.2.2.1, .int v0.2.2.2.2.2.2.2.2.2.2.2.2.2.2.1, .ref q8, .int v0.2.2.2.2.2.2.2.2.2.2.2.2.2.2.2.2])), (q1, .inl (G.2.2.1, 946, .inl v0.1)), (q2, .inl (G.2.2.1, 5676, .inl v0.2.1)), (q3, .inl (G.2.2.1, 60, .inl v0.2.2.2.1)), (q4, .inl (G.2.2.1, 201, .inl v0.2.2.2.2.2.2.1)), (q5, .inl (G.2.2.1, 201, .inl v0.2.2.2.2.2.2.2.2.1)), (q6, .inl (G.2.2.1, 201, .inl v0.2.2.2.2.2.2.2.2.2.1)), (q7, .inl (G.2.2.1, 201, .inl v0.2.2.2.2.2.2.2.2.2.2.1)), (q8, .inl (G.2.2.1, 201, .inl v0.2.2.2.2.2.2.2.2.2.2.2.2.2.2.2.1))] (fun _ : Unit => some (.int res)) (fun _ => [(q0, .inr (7, [.ref q1, .ref q2, .int v0.2.2.1, .ref q3, .int v0.2.2.2.2.1, .int v0.2.2.2.2.2.1, .ref q4, .int v0.2.2.2.2.2.2.2.1, .ref q5, .ref q6, .ref q7, .int v0.2.2.2.2.2.2.2.2.2.2.2.1, .int v0.2.2.2.2.2.2.2.2.2.2.2.2.1, .int v0.2.2.2.2.2.2.2.2.2.2.2.2.2.1, .int v0.2.2.2.2.2.2.2.2.2.2.2.2.2.2.1, .ref q8, .int v0.2.2.2.2.2.2.2.2.2.2.2.2.2.2.2.2])), (q1, .inl (G.2.2.1, 946, .inl v0.1)), (q2, .inl (G.2.2.1, 5676, .inl v0.2.1)), (q3, .inl (G.2.2.1, 60, .inl v0.2.2.2.1)), (q4, .inl (G.2.2.1, 201, .inl v0.2.2.2.2.2.2.1)), (q5, .inl (G.2.2.1, 201, .inl v0.2.2.2.2.2.2.2.2.1)), (q6, .inl (G.2.2.1, 201, .inl v0.2.2.2.2.2.2.2.2.2.1)), (q7, .inl (G.2.2.1, 201, .inl v0.2.2.2.2.2.2.2.2.2.2.1)), (q8, .inl (G.2.2.1, 201, .inl v0.2.2.2.2.2.2.2.2.2.2.2.2.2.2.2.1))]) 0 0 := by
  have hw0 : Cond.fieldLink RX8 62 "TelexReceiverModel" "length" "I" ∈ wsX8_hasWord := by decide +kernel
  have hw1 : Cond.fieldLink RX8 16 "TelexReceiverModel" "buffer" "[I" ∈ wsX8_hasWord := by decide +kernel
  have hiX8 : ∀ w ∈ u_ws RX8 TX8 17, w ∈ wsX8_hasWord := by decide +kernel
  refine zg_of (own := RX8) (cc := cX8_hasWord) (nL := 3) (ret := (some .boolean)) (by decide +kernel) rfl rfl (Nat.le_of_ble_eq_true rfl) (fun Z X hF => ?_)
  show zgGd G Z _ 0 0 3 _ 0 [(0, .ref q0)] []
  have hL13 : ∀ (n : Nat) (y1 : Int32) (y2 : Int32), zf_X8_hasWord_L13 fu v0 n y1 y2 = some res → zgGd G Z ({ frames := 2, cells := 0, slots := 0, locals := 42 } : Room) 0 0 3 [(q0, .inr (7, [.ref q1, .ref q2, .int v0.2.2.1, .ref q3, .int v0.2.2.2.2.1, .int v0.2.2.2.2.2.1, .ref q4, .int v0.2.2.2.2.2.2.2.1, .ref q5, .ref q6, .ref q7, .int v0.2.2.2.2.2.2.2.2.2.2.2.1, .int v0.2.2.2.2.2.2.2.2.2.2.2.2.1, .int v0.2.2.2.2.2.2.2.2.2.2.2.2.2.1, .int v0.2.2.2.2.2.2.2.2.2.2.2.2.2.2.1, .ref q8, .int v0.2.2.2.2.2.2.2.2.2.2.2.2.2.2.2.2])), (q1, .inl (G.2.2.1, 946, .inl v0.1)), (q2, .inl (G.2.2.1, 5676, .inl v0.2.1)), (q3, .inl (G.2.2.1, 60, .inl v0.2.2.2.1)), (q4, .inl (G.2.2.1, 201, .inl v0.2.2.2.2.2.2.1)), (q5, .inl (G.2.2.1, 201, .inl v0.2.2.2.2.2.2.2.2.1)), (q6, .inl (G.2.2.1, 201, .inl v0.2.2.2.2.2.2.2.2.2.1)), (q7, .inl (G.2.2.1, 201, .inl v0.2.2.2.2.2.2.2.2.2.2.1)), (q8, .inl (G.2.2.1, 201, .inl v0.2.2.2.2.2.2.2.2.2.2.2.2.2.2.2.1))] 13 [(0, .ref q0), (1, .int y1), (2, .int y2)] [] := by
    intro n
    induction n with
    | zero =>
      intro y1 y2 hf
      rw [zf_X8_hasWord_L13] at hf
      cases hf
    | succ n13 ih13 =>
      have hb42 : ∀ (y2 : Int32) (z0 : Int32), zf_X8_hasWord_b42 fu v0 (zf_X8_hasWord_L13 fu v0 n13) y2 z0 = some res → zgGd G Z ({ frames := 2, cells := 0, slots := 0, locals := 42 } : Room) 0 0 3 [(q0, .inr (7, [.ref q1, .ref q2, .int v0.2.2.1, .ref q3, .int v0.2.2.2.2.1, .int v0.2.2.2.2.2.1, .ref q4, .int v0.2.2.2.2.2.2.2.1, .ref q5, .ref q6, .ref q7, .int v0.2.2.2.2.2.2.2.2.2.2.2.1, .int v0.2.2.2.2.2.2.2.2.2.2.2.2.1, .int v0.2.2.2.2.2.2.2.2.2.2.2.2.2.1, .int v0.2.2.2.2.2.2.2.2.2.2.2.2.2.2.1, .ref q8, .int v0.2.2.2.2.2.2.2.2.2.2.2.2.2.2.2.2])), (q1, .inl (G.2.2.1, 946, .inl v0.1)), (q2, .inl (G.2.2.1, 5676, .inl v0.2.1)), (q3, .inl (G.2.2.1, 60, .inl v0.2.2.2.1)), (q4, .inl (G.2.2.1, 201, .inl v0.2.2.2.2.2.2.1)), (q5, .inl (G.2.2.1, 201, .inl v0.2.2.2.2.2.2.2.2.1)), (q6, .inl (G.2.2.1, 201, .inl v0.2.2.2.2.2.2.2.2.2.1)), (q7, .inl (G.2.2.1, 201, .inl v0.2.2.2.2.2.2.2.2.2.2.1)), (q8, .inl (G.2.2.1, 201, .inl v0.2.2.2.2.2.2.2.2.2.2.2.2.2.2.2.1))] 42 [(0, .ref q0), (2, .int y2)] [.int z0] := by
        intro y2 z0 hf
        unfold zf_X8_hasWord_b42 at hf
        refine zg_istore_n (L' := [(1, .int z0), (0, .ref q0), (2, .int y2)]) X dX8_hasWord_42 rfl (by decide) rfl ?_
        obtain ⟨x8, ex8, hf⟩ := pl_l hf
        refine zg_iinc (v := x8) (L' := [(2, .int x8), (1, .int z0), (0, .ref q0)]) X dX8_hasWord_43 (j := 2) rfl (by rw [ex8]; rfl) (by decide) rfl ?_
        refine zg_goto (tgt := 13) X dX8_hasWord_46 (by decide) ?_
        refine zg_loc [2, 1, 0] rfl ?_
        exact ih13 z0 x8 hf
      have hb41 : ∀ (y2 : Int32), zf_X8_hasWord_b41 fu v0 (zf_X8_hasWord_L13 fu v0 n13) y2 = some res → zgGd G Z ({ frames := 2, cells := 0, slots := 0, locals := 42 } : Room) 0 0 3 [(q0, .inr (7, [.ref q1, .ref q2, .int v0.2.2.1, .ref q3, .int v0.2.2.2.2.1, .int v0.2.2.2.2.2.1, .ref q4, .int v0.2.2.2.2.2.2.2.1, .ref q5, .ref q6, .ref q7, .int v0.2.2.2.2.2.2.2.2.2.2.2.1, .int v0.2.2.2.2.2.2.2.2.2.2.2.2.1, .int v0.2.2.2.2.2.2.2.2.2.2.2.2.2.1, .int v0.2.2.2.2.2.2.2.2.2.2.2.2.2.2.1, .ref q8, .int v0.2.2.2.2.2.2.2.2.2.2.2.2.2.2.2.2])), (q1, .inl (G.2.2.1, 946, .inl v0.1)), (q2, .inl (G.2.2.1, 5676, .inl v0.2.1)), (q3, .inl (G.2.2.1, 60, .inl v0.2.2.2.1)), (q4, .inl (G.2.2.1, 201, .inl v0.2.2.2.2.2.2.1)), (q5, .inl (G.2.2.1, 201, .inl v0.2.2.2.2.2.2.2.2.1)), (q6, .inl (G.2.2.1, 201, .inl v0.2.2.2.2.2.2.2.2.2.1)), (q7, .inl (G.2.2.1, 201, .inl v0.2.2.2.2.2.2.2.2.2.2.1)), (q8, .inl (G.2.2.1, 201, .inl v0.2.2.2.2.2.2.2.2.2.2.2.2.2.2.2.1))] 41 [(0, .ref q0), (2, .int y2)] [] := by
        intro y2 hf
        unfold zf_X8_hasWord_b41 at hf
        refine zg_iconst (v := 0) X dX8_hasWord_41 (by decide) ?_
        exact hb42 y2 0 hf
      intro y1 y2 hf
      rw [zf_X8_hasWord_L13] at hf
      refine zg_iload_n X dX8_hasWord_13 rfl 2 rfl ?_
      refine zg_aload_n X dX8_hasWord_14 rfl 0 rfl ?_
      refine zg_get (C := RX8) (T := TX8) (N := 17) X 0 4 hiX8 rfl rfl (by decide) hw0 rfl dX8_hasWord_15 ?_
      refine zg_icmp_ge (tgt := 49) X dX8_hasWord_18 (by decide) (fun c2 => ?_) (fun c2 => ?_)
      · have hf := pl_t c2 hf
        refine zg_iload_n X dX8_hasWord_49 rfl 1 rfl ?_
        obtain ⟨hb3, hf⟩ := pl_o hf
        have hf := Option.some.inj hf
        subst hf
        exact zg_iret X hF rfl (pl_nz hb3) () rfl rfl (Nat.le_of_ble_eq_true rfl) (Nat.le_of_ble_eq_true rfl) dX8_hasWord_50
      · have hf := pl_f c2 hf
        refine zg_iload_n X dX8_hasWord_21 rfl 1 rfl ?_
        refine zg_if_eq (tgt := 41) X dX8_hasWord_22 (by decide) (fun c4 => ?_) (fun c4 => ?_)
        · have hf := pl_t c4 hf
          refine zg_loc [0, 2] rfl ?_
          exact hb41 y2 hf
        · have hf := pl_f c4 hf
          refine zg_aload_n X dX8_hasWord_25 rfl 0 rfl ?_
          refine zg_get (C := RX8) (T := TX8) (N := 17) X 0 3 hiX8 rfl rfl (by decide) hw1 rfl dX8_hasWord_26 ?_
          refine zg_iload_n X dX8_hasWord_29 rfl 2 rfl ?_
          obtain ⟨hin, hf⟩ := pl_in hf
          refine zg_iald X 3 rfl hin dX8_hasWord_30 ?_
          obtain ⟨x5, ex5, hf⟩ := pl_l hf
          refine zg_topi ex5 ?_
          obtain ⟨b6, hb6, hf⟩ := pl_b hf
          refine zg_cP1 X (zg_runS X (zc_X8_isLetter G x5 fu b6 hb6) gX8_hasWord_X8_isLetter rfl zh_X8_isLetter.2 ⟨rfl, rfl⟩ ⟨Nat.le_of_ble_eq_true rfl, Nat.le_of_ble_eq_true rfl⟩ rfl (Nat.le_of_ble_eq_true rfl) ⟨Nat.le_of_ble_eq_true rfl, Nat.le_of_ble_eq_true rfl⟩ [] (by decide) rfl rfl dX8_hasWord_31) rfl ?_
          refine zg_if_eq (tgt := 41) X dX8_hasWord_34 (by decide) (fun c7 => ?_) (fun c7 => ?_)
          · have hf := pl_t c7 hf
            refine zg_loc [0, 2] rfl ?_
            exact hb41 y2 hf
          · have hf := pl_f c7 hf
            refine zg_iconst (v := 1) X dX8_hasWord_37 (by decide) ?_
            refine zg_goto (tgt := 42) X dX8_hasWord_38 (by decide) ?_
            refine zg_loc [0, 2] rfl ?_
            exact hb42 y2 1 hf
  unfold zf_X8_hasWord at hf
  refine zg_aload_n X dX8_hasWord_0 rfl 0 rfl ?_
  refine zg_get (C := RX8) (T := TX8) (N := 17) X 0 4 hiX8 rfl rfl (by decide) hw0 rfl dX8_hasWord_1 ?_
  refine zg_iconst (v := 1) X dX8_hasWord_4 (by decide) ?_
  refine zg_bipush (v := 6) X dX8_hasWord_5 (by decide) ?_
  obtain ⟨b1, hb1, hf⟩ := pl_b hf
  refine zg_cP1 X (zg_runS X (zc_X8_in G v0.2.2.2.2.1 1 6 fu b1 hb1) gX8_hasWord_X8_in rfl zh_X8_in.2 ⟨rfl, rfl⟩ ⟨Nat.le_of_ble_eq_true rfl, Nat.le_of_ble_eq_true rfl⟩ rfl (Nat.le_of_ble_eq_true rfl) ⟨Nat.le_of_ble_eq_true rfl, Nat.le_of_ble_eq_true rfl⟩ [] (by decide) rfl rfl dX8_hasWord_7) rfl ?_
  refine zg_istore_n (L' := [(1, .int b1), (0, .ref q0)]) X dX8_hasWord_10 rfl (by decide) rfl ?_
  refine zg_iconst (v := 0) X dX8_hasWord_11 (by decide) ?_
  refine zg_istore_n (L' := [(2, .int 0), (1, .int b1), (0, .ref q0)]) X dX8_hasWord_12 rfl (by decide) rfl ?_
  refine zg_loc [2, 1, 0] rfl ?_
  exact hL13 fu b1 0 hf
theorem zh_X8_learn : yX8_learn.cls = RX8 ∧ yX8_learn.cls ≠ "java/lang/invoke/MethodHandle" ∧ yX8_learn.cls ≠ "java/lang/invoke/VarHandle" ∧ (parseMethodDescriptor yX8_learn.desc).map (fun d => d.parameters.length) = some 0 := by decide +kernel
set_option maxHeartbeats 8000000 in
set_option maxRecDepth 100000 in
theorem zc_X8_learn (G : zgG) (q0 q1 q2 q3 q4 q5 q6 q7 q8 : Nat) (v0 : zModel) (fu : Nat) (res : (Int32 × zModel)) (hf : zf_X8_learn fu v0 = some res) : zgCt G yX8_learn wsX8_learn ({ frames := 4, cells := 0, slots := 0, locals := 85 } : Room) [.ref q0] [(q0, .inr (7, [.ref q1, .ref q2, .int v0.2.2.1, .ref q3, .int v0.2.2.2.2.1, .int v0.2.2.2.2.2.1, .ref q4, .int v0.2.2.2.2.2.2.2.1, .ref q5, .ref q6, .ref q7, .int v0.2.2.2.2.2.2.2.2.2.2.2.1, .int v0.2.2.2.2.2.2.2.2.2.2.2.2.1, .int v0.2.2.2.2.2.2.2.2.2.2.2.2.2.1, .int v0.2.2.2.2.2.2.2.2.2.2.2.2.2.2.1, .ref q8, .int v0.2.2.2.2.2.2.2.2.2.2.2.2.2.2.2.2])), (q1, .inl (G.2.2.1, 946, .inl v0.1)), (q2, .inl (G.2.2.1, 5676, .inl v0.2.1)), (q3, .inl (G.2.2.1, 60, .inl v0.2.2.2.1)), (q4, .inl (G.2.2.1, 201, .inl v0.2.2.2.2.2.2.1)), (q5, .inl (G.2.2.1, 201, .inl v0.2.2.2.2.2.2.2.2.1)), (q6, .inl (G.2.2.1, 201, .inl v0.2.2.2.2.2.2.2.2.2.1)), (q7, .inl (G.2.2.1, 201, .inl v0.2.2.2.2.2.2.2.2.2.2.1)), (q8, .inl (G.2.2.1, 201, .inl v0.2.2.2.2.2.2.2.2.2.2.2.2.2.2.2.1))] (fun _ : Unit => some (.int res.1)) (fun _ => [(q0, .inr (7, [.ref q1, .ref q2, .int res.2.2.2.1, .ref q3, .int res.2.2.2.2.2.1, .int res.2.2.2.2.2.2.1, .ref q4, .int res.2.2.2.2.2.2.2.2.1, .ref q5, .ref q6, .ref q7, .int res.2.2.2.2.2.2.2.2.2.2.2.2.1, .int res.2.2.2.2.2.2.2.2.2.2.2.2.2.1, .int res.2.2.2.2.2.2.2.2.2.2.2.2.2.2.1, .int res.2.2.2.2.2.2.2.2.2.2.2.2.2.2.2.1, .ref q8, .int res.2.2.2.2.2.2.2.2.2.2.2.2.2.2.2.2.2])), (q1, .inl (G.2.2.1, 946, .inl res.2.1)), (q2, .inl (G.2.2.1, 5676, .inl res.2.2.1)), (q3, .inl (G.2.2.1, 60, .inl res.2.2.2.2.1)), (q4, .inl (G.2.2.1, 201, .inl res.2.2.2.2.2.2.2.1)), (q5, .inl (G.2.2.1, 201, .inl res.2.2.2.2.2.2.2.2.2.1)), (q6, .inl (G.2.2.1, 201, .inl res.2.2.2.2.2.2.2.2.2.2.1)), (q7, .inl (G.2.2.1, 201, .inl res.2.2.2.2.2.2.2.2.2.2.2.1)), (q8, .inl (G.2.2.1, 201, .inl res.2.2.2.2.2.2.2.2.2.2.2.2.2.2.2.2.1))]) 0 0 := by
  have hw0 : Cond.fieldLink RX8 7 "TelexReceiverModel" "s" "[I" ∈ wsX8_learn := by decide +kernel
  have hw1 : Cond.fieldLink RX8 62 "TelexReceiverModel" "length" "I" ∈ wsX8_learn := by decide +kernel
  have hw2 : Cond.fieldLink RX8 16 "TelexReceiverModel" "buffer" "[I" ∈ wsX8_learn := by decide +kernel
  have hiX8 : ∀ w ∈ u_ws RX8 TX8 17, w ∈ wsX8_learn := by decide +kernel
  refine zg_of (own := RX8) (cc := cX8_learn) (nL := 3) (ret := (some .int)) (by decide +kernel) rfl rfl (Nat.le_of_ble_eq_true rfl) (fun Z X hF => ?_)
  show zgGd G Z _ 0 0 3 _ 0 [(0, .ref q0)] []
  have hb131 : ∀ (w0 : (Nat → Int32)) (w1 : (Nat → Int32)) (w2 : Int32) (w3 : (Nat → Int32)) (w4 : Int32) (w5 : Int32) (w6 : (Nat → Int32)) (w7 : Int32) (w8 : (Nat → Int32)) (w9 : (Nat → Int32)) (w10 : (Nat → Int32)) (w11 : Int32) (w12 : Int32) (w13 : Int32) (w14 : Int32) (w15 : (Nat → Int32)) (w16 : Int32), zf_X8_learn_b131 fu v0 w0 w1 w2 w3 w4 w5 w6 w7 w8 w9 w10 w11 w12 w13 w14 w15 w16 = some res → zgGd G Z ({ frames := 4, cells := 0, slots := 0, locals := 85 } : Room) 0 0 3 [(q0, .inr (7, [.ref q1, .ref q2, .int w2, .ref q3, .int w4, .int w5, .ref q4, .int w7, .ref q5, .ref q6, .ref q7, .int w11, .int w12, .int w13, .int w14, .ref q8, .int w16])), (q1, .inl (G.2.2.1, 946, .inl w0)), (q2, .inl (G.2.2.1, 5676, .inl w1)), (q3, .inl (G.2.2.1, 60, .inl w3)), (q4, .inl (G.2.2.1, 201, .inl w6)), (q5, .inl (G.2.2.1, 201, .inl w8)), (q6, .inl (G.2.2.1, 201, .inl w9)), (q7, .inl (G.2.2.1, 201, .inl w10)), (q8, .inl (G.2.2.1, 201, .inl w15))] 131 [(0, .ref q0)] [] := by
    intro w0 w1 w2 w3 w4 w5 w6 w7 w8 w9 w10 w11 w12 w13 w14 w15 w16 hf
    unfold zf_X8_learn_b131 at hf
    refine zg_aload_n X dX8_learn_131 rfl 0 rfl ?_
    refine zg_iconst (v := 0) X dX8_learn_132 (by decide) ?_
    refine zg_put (C := RX8) (T := TX8) (N := 17) (ty := .int) (ws' := [(q0, .inr (7, [.ref q1, .ref q2, .int w2, .ref q3, .int 0, .int w5, .ref q4, .int w7, .ref q5, .ref q6, .ref q7, .int w11, .int w12, .int w13, .int w14, .ref q8, .int w16])), (q1, .inl (G.2.2.1, 946, .inl w0)), (q2, .inl (G.2.2.1, 5676, .inl w1)), (q3, .inl (G.2.2.1, 60, .inl w3)), (q4, .inl (G.2.2.1, 201, .inl w6)), (q5, .inl (G.2.2.1, 201, .inl w8)), (q6, .inl (G.2.2.1, 201, .inl w9)), (q7, .inl (G.2.2.1, 201, .inl w10)), (q8, .inl (G.2.2.1, 201, .inl w15))]) X 0 4 hiX8 tyX8 tyX8_ok nmX8 rfl rfl (by decide) hw1 rfl (by decide +kernel) rfl rfl (Nat.le_of_ble_eq_true rfl) rfl dX8_learn_133 ?_
    refine zg_aload_n X dX8_learn_136 rfl 0 rfl ?_
    refine zg_get (C := RX8) (T := TX8) (N := 17) X 0 0 hiX8 rfl rfl (by decide) hw0 rfl dX8_learn_137 ?_
    refine zg_sipush (v := 805) X dX8_learn_140 (by decide) ?_
    refine zg_iald X 1 rfl (by unfold vp_in; decide) dX8_learn_143 ?_
    obtain ⟨x12, ex12, hf⟩ := pl_l hf
    refine zg_topi ex12 ?_
    have hf := Option.some.inj hf
    subst hf
    exact zg_iret X hF rfl rfl () rfl rfl (Nat.le_of_ble_eq_true rfl) (Nat.le_of_ble_eq_true rfl) dX8_learn_144
  have hL71 : ∀ (n : Nat) (y1 : Int32) (y2 : Int32) (w0 : (Nat → Int32)) (w1 : (Nat → Int32)) (w2 : Int32) (w3 : (Nat → Int32)) (w4 : Int32) (w5 : Int32) (w6 : (Nat → Int32)) (w7 : Int32) (w8 : (Nat → Int32)) (w9 : (Nat → Int32)) (w10 : (Nat → Int32)) (w11 : Int32) (w12 : Int32) (w13 : Int32) (w14 : Int32) (w15 : (Nat → Int32)) (w16 : Int32), zf_X8_learn_L71 fu v0 n y1 y2 w0 w1 w2 w3 w4 w5 w6 w7 w8 w9 w10 w11 w12 w13 w14 w15 w16 = some res → zgGd G Z ({ frames := 4, cells := 0, slots := 0, locals := 85 } : Room) 0 0 3 [(q0, .inr (7, [.ref q1, .ref q2, .int w2, .ref q3, .int w4, .int w5, .ref q4, .int w7, .ref q5, .ref q6, .ref q7, .int w11, .int w12, .int w13, .int w14, .ref q8, .int w16])), (q1, .inl (G.2.2.1, 946, .inl w0)), (q2, .inl (G.2.2.1, 5676, .inl w1)), (q3, .inl (G.2.2.1, 60, .inl w3)), (q4, .inl (G.2.2.1, 201, .inl w6)), (q5, .inl (G.2.2.1, 201, .inl w8)), (q6, .inl (G.2.2.1, 201, .inl w9)), (q7, .inl (G.2.2.1, 201, .inl w10)), (q8, .inl (G.2.2.1, 201, .inl w15))] 71 [(0, .ref q0), (1, .int y1), (2, .int y2)] [] := by
    intro n
    induction n with
    | zero =>
      intro y1 y2 w0 w1 w2 w3 w4 w5 w6 w7 w8 w9 w10 w11 w12 w13 w14 w15 w16 hf
      rw [zf_X8_learn_L71] at hf
      cases hf
    | succ n71 ih71 =>
      have hb112 : ∀ (y1 : Int32) (y2 : Int32) (z1 : Int32) (z2 : Int32) (w0 : (Nat → Int32)) (w1 : (Nat → Int32)) (w2 : Int32) (w3 : (Nat → Int32)) (w4 : Int32) (w5 : Int32) (w6 : (Nat → Int32)) (w7 : Int32) (w8 : (Nat → Int32)) (w9 : (Nat → Int32)) (w10 : (Nat → Int32)) (w11 : Int32) (w12 : Int32) (w13 : Int32) (w14 : Int32) (w15 : (Nat → Int32)) (w16 : Int32), zf_X8_learn_b112 fu v0 (zf_X8_learn_L71 fu v0 n71) y1 y2 z1 z2 w0 w1 w2 w3 w4 w5 w6 w7 w8 w9 w10 w11 w12 w13 w14 w15 w16 = some res → zgGd G Z ({ frames := 4, cells := 0, slots := 0, locals := 85 } : Room) 0 0 3 [(q0, .inr (7, [.ref q1, .ref q2, .int w2, .ref q3, .int w4, .int w5, .ref q4, .int w7, .ref q5, .ref q6, .ref q7, .int w11, .int w12, .int w13, .int w14, .ref q8, .int w16])), (q1, .inl (G.2.2.1, 946, .inl w0)), (q2, .inl (G.2.2.1, 5676, .inl w1)), (q3, .inl (G.2.2.1, 60, .inl w3)), (q4, .inl (G.2.2.1, 201, .inl w6)), (q5, .inl (G.2.2.1, 201, .inl w8)), (q6, .inl (G.2.2.1, 201, .inl w9)), (q7, .inl (G.2.2.1, 201, .inl w10)), (q8, .inl (G.2.2.1, 201, .inl w15))] 112 [(0, .ref q0), (1, .int y1), (2, .int y2)] [.int z2, .int z1, .ref q1] := by
        intro y1 y2 z1 z2 w0 w1 w2 w3 w4 w5 w6 w7 w8 w9 w10 w11 w12 w13 w14 w15 w16 hf
        unfold zf_X8_learn_b112 at hf
        obtain ⟨hin, hf⟩ := pl_in hf
        obtain ⟨f20, ef20, hf⟩ := pl_l hf
        refine zg_iast (ws' := [(q0, .inr (7, [.ref q1, .ref q2, .int w2, .ref q3, .int w4, .int w5, .ref q4, .int w7, .ref q5, .ref q6, .ref q7, .int w11, .int w12, .int w13, .int w14, .ref q8, .int w16])), (q1, .inl (G.2.2.1, 946, .inl f20)), (q2, .inl (G.2.2.1, 5676, .inl w1)), (q3, .inl (G.2.2.1, 60, .inl w3)), (q4, .inl (G.2.2.1, 201, .inl w6)), (q5, .inl (G.2.2.1, 201, .inl w8)), (q6, .inl (G.2.2.1, 201, .inl w9)), (q7, .inl (G.2.2.1, 201, .inl w10)), (q8, .inl (G.2.2.1, 201, .inl w15))]) X 1 rfl hin (by subst ef20; rfl) dX8_learn_112 ?_
        obtain ⟨x21, ex21, hf⟩ := pl_l hf
        refine zg_iinc (v := x21) (L' := [(2, .int x21), (0, .ref q0), (1, .int y1)]) X dX8_learn_113 (j := 2) rfl (by rw [ex21]; rfl) (by decide) rfl ?_
        refine zg_goto (tgt := 71) X dX8_learn_116 (by decide) ?_
        refine zg_loc [1, 2, 0] rfl ?_
        exact ih71 y1 x21 f20 w1 w2 w3 w4 w5 w6 w7 w8 w9 w10 w11 w12 w13 w14 w15 w16 hf
      intro y1 y2 w0 w1 w2 w3 w4 w5 w6 w7 w8 w9 w10 w11 w12 w13 w14 w15 w16 hf
      rw [zf_X8_learn_L71] at hf
      refine zg_iload_n X dX8_learn_71 rfl 2 rfl ?_
      refine zg_bipush (v := 6) X dX8_learn_72 (by decide) ?_
      refine zg_icmp_ge (tgt := 119) X dX8_learn_74 (by decide) (fun c13 => ?_) (fun c13 => ?_)
      · have hf := pl_t c13 hf
        refine zg_aload_n X dX8_learn_119 rfl 0 rfl ?_
        refine zg_get (C := RX8) (T := TX8) (N := 17) X 0 0 hiX8 rfl rfl (by decide) hw0 rfl dX8_learn_120 ?_
        refine zg_sipush (v := 805) X dX8_learn_123 (by decide) ?_
        refine zg_dup2 X dX8_learn_126 rfl rfl ?_
        refine zg_iald X 1 rfl (by unfold vp_in; decide) dX8_learn_127 ?_
        obtain ⟨x14, ex14, hf⟩ := pl_l hf
        refine zg_topi ex14 ?_
        refine zg_iconst (v := 1) X dX8_learn_128 (by decide) ?_
        refine zg_iadd X dX8_learn_129 ?_
        obtain ⟨x15, ex15, hf⟩ := pl_l hf
        refine zg_topi ex15 ?_
        obtain ⟨f16, ef16, hf⟩ := pl_l hf
        refine zg_iast (ws' := [(q0, .inr (7, [.ref q1, .ref q2, .int w2, .ref q3, .int w4, .int w5, .ref q4, .int w7, .ref q5, .ref q6, .ref q7, .int w11, .int w12, .int w13, .int w14, .ref q8, .int w16])), (q1, .inl (G.2.2.1, 946, .inl f16)), (q2, .inl (G.2.2.1, 5676, .inl w1)), (q3, .inl (G.2.2.1, 60, .inl w3)), (q4, .inl (G.2.2.1, 201, .inl w6)), (q5, .inl (G.2.2.1, 201, .inl w8)), (q6, .inl (G.2.2.1, 201, .inl w9)), (q7, .inl (G.2.2.1, 201, .inl w10)), (q8, .inl (G.2.2.1, 201, .inl w15))]) X 1 rfl (by unfold vp_in; decide) (by subst ef16; rfl) dX8_learn_130 ?_
        refine zg_loc [0] rfl ?_
        exact hb131 f16 w1 w2 w3 w4 w5 w6 w7 w8 w9 w10 w11 w12 w13 w14 w15 w16 hf
      · have hf := pl_f c13 hf
        refine zg_aload_n X dX8_learn_77 rfl 0 rfl ?_
        refine zg_get (C := RX8) (T := TX8) (N := 17) X 0 0 hiX8 rfl rfl (by decide) hw0 rfl dX8_learn_78 ?_
        refine zg_sipush (v := 826) X dX8_learn_81 (by decide) ?_
        refine zg_bipush (v := 6) X dX8_learn_84 (by decide) ?_
        refine zg_iload_n X dX8_learn_86 rfl 1 rfl ?_
        refine zg_imul X dX8_learn_87 ?_
        refine zg_iadd X dX8_learn_88 ?_
        refine zg_iload_n X dX8_learn_89 rfl 2 rfl ?_
        refine zg_iadd X dX8_learn_90 ?_
        refine zg_iload_n X dX8_learn_91 rfl 2 rfl ?_
        refine zg_aload_n X dX8_learn_92 rfl 0 rfl ?_
        refine zg_get (C := RX8) (T := TX8) (N := 17) X 0 4 hiX8 rfl rfl (by decide) hw1 rfl dX8_learn_93 ?_
        refine zg_icmp_ge (tgt := 111) X dX8_learn_96 (by decide) (fun c17 => ?_) (fun c17 => ?_)
        · have hf := pl_t c17 hf
          refine zg_iconst (v := 0) X dX8_learn_111 (by decide) ?_
          exact hb112 y1 y2 (((826 : Int32) + ((6 : Int32) * y1)) + y2) 0 w0 w1 w2 w3 w4 w5 w6 w7 w8 w9 w10 w11 w12 w13 w14 w15 w16 hf
        · have hf := pl_f c17 hf
          refine zg_aload_n X dX8_learn_99 rfl 0 rfl ?_
          refine zg_get (C := RX8) (T := TX8) (N := 17) X 0 3 hiX8 rfl rfl (by decide) hw2 rfl dX8_learn_100 ?_
          refine zg_iload_n X dX8_learn_103 rfl 2 rfl ?_
          obtain ⟨hin, hf⟩ := pl_in hf
          refine zg_iald X 3 rfl hin dX8_learn_104 ?_
          obtain ⟨x18, ex18, hf⟩ := pl_l hf
          refine zg_topi ex18 ?_
          obtain ⟨b19, hb19, hf⟩ := pl_b hf
          refine zg_cP1 X (zg_runS X (zc_X8_codeOf G x18 fu b19 hb19) gX8_learn_X8_codeOf rfl zh_X8_codeOf.2 ⟨rfl, rfl⟩ ⟨Nat.le_of_ble_eq_true rfl, Nat.le_of_ble_eq_true rfl⟩ rfl (Nat.le_of_ble_eq_true rfl) ⟨Nat.le_of_ble_eq_true rfl, Nat.le_of_ble_eq_true rfl⟩ [] (by decide) rfl rfl dX8_learn_105) rfl ?_
          refine zg_goto (tgt := 112) X dX8_learn_108 (by decide) ?_
          exact hb112 y1 y2 (((826 : Int32) + ((6 : Int32) * y1)) + y2) b19 w0 w1 w2 w3 w4 w5 w6 w7 w8 w9 w10 w11 w12 w13 w14 w15 w16 hf
  have hb26 : ∀ (z1 : Int32) (w0 : (Nat → Int32)) (w1 : (Nat → Int32)) (w2 : Int32) (w3 : (Nat → Int32)) (w4 : Int32) (w5 : Int32) (w6 : (Nat → Int32)) (w7 : Int32) (w8 : (Nat → Int32)) (w9 : (Nat → Int32)) (w10 : (Nat → Int32)) (w11 : Int32) (w12 : Int32) (w13 : Int32) (w14 : Int32) (w15 : (Nat → Int32)) (w16 : Int32), zf_X8_learn_b26 fu v0 z1 w0 w1 w2 w3 w4 w5 w6 w7 w8 w9 w10 w11 w12 w13 w14 w15 w16 = some res → zgGd G Z ({ frames := 4, cells := 0, slots := 0, locals := 85 } : Room) 0 0 3 [(q0, .inr (7, [.ref q1, .ref q2, .int w2, .ref q3, .int w4, .int w5, .ref q4, .int w7, .ref q5, .ref q6, .ref q7, .int w11, .int w12, .int w13, .int w14, .ref q8, .int w16])), (q1, .inl (G.2.2.1, 946, .inl w0)), (q2, .inl (G.2.2.1, 5676, .inl w1)), (q3, .inl (G.2.2.1, 60, .inl w3)), (q4, .inl (G.2.2.1, 201, .inl w6)), (q5, .inl (G.2.2.1, 201, .inl w8)), (q6, .inl (G.2.2.1, 201, .inl w9)), (q7, .inl (G.2.2.1, 201, .inl w10)), (q8, .inl (G.2.2.1, 201, .inl w15))] 26 [(0, .ref q0)] [.int z1, .ref q0] := by
    intro z1 w0 w1 w2 w3 w4 w5 w6 w7 w8 w9 w10 w11 w12 w13 w14 w15 w16 hf
    unfold zf_X8_learn_b26 at hf
    obtain ⟨b5, hb5, hf⟩ := pl_b hf
    refine zg_cU1 (ws2 := [(q0, .inr (7, [.ref q1, .ref q2, .int b5.2.2.2.1, .ref q3, .int b5.2.2.2.2.2.1, .int b5.2.2.2.2.2.2.1, .ref q4, .int b5.2.2.2.2.2.2.2.2.1, .ref q5, .ref q6, .ref q7, .int b5.2.2.2.2.2.2.2.2.2.2.2.2.1, .int b5.2.2.2.2.2.2.2.2.2.2.2.2.2.1, .int b5.2.2.2.2.2.2.2.2.2.2.2.2.2.2.1, .int b5.2.2.2.2.2.2.2.2.2.2.2.2.2.2.2.1, .ref q8, .int b5.2.2.2.2.2.2.2.2.2.2.2.2.2.2.2.2.2])), (q1, .inl (G.2.2.1, 946, .inl b5.2.1)), (q2, .inl (G.2.2.1, 5676, .inl b5.2.2.1)), (q3, .inl (G.2.2.1, 60, .inl b5.2.2.2.2.1)), (q4, .inl (G.2.2.1, 201, .inl b5.2.2.2.2.2.2.2.1)), (q5, .inl (G.2.2.1, 201, .inl b5.2.2.2.2.2.2.2.2.2.1)), (q6, .inl (G.2.2.1, 201, .inl b5.2.2.2.2.2.2.2.2.2.2.1)), (q7, .inl (G.2.2.1, 201, .inl b5.2.2.2.2.2.2.2.2.2.2.2.1)), (q8, .inl (G.2.2.1, 201, .inl b5.2.2.2.2.2.2.2.2.2.2.2.2.2.2.2.2.1))]) X (zg_runV X (zc_X8_refused G q0 q1 q2 q3 q4 q5 q6 q7 q8 (w0, w1, w2, w3, w4, w5, w6, w7, w8, w9, w10, w11, w12, w13, w14, w15, w16) z1 fu b5 hb5) gX8_learn_X8_refused rfl zh_X8_refused ⟨rfl, rfl⟩ ⟨Nat.le_of_ble_eq_true rfl, Nat.le_of_ble_eq_true rfl⟩ rfl rfl rfl (Nat.le_of_ble_eq_true rfl) ⟨Nat.le_of_ble_eq_true rfl, Nat.le_of_ble_eq_true rfl⟩ [0, 1, 2, 3, 4, 5, 6, 7, 8] (by decide) rfl rfl dX8_learn_26) rfl rfl ?_
    refine zg_if_eq (tgt := 34) X dX8_learn_29 (by decide) (fun c6 => ?_) (fun c6 => ?_)
    · have hf := pl_t c6 hf
      refine zg_aload_n X dX8_learn_34 rfl 0 rfl ?_
      obtain ⟨b7, hb7, hf⟩ := pl_b hf
      refine zg_cU0 (ws2 := [(q0, .inr (7, [.ref q1, .ref q2, .int b7.2.2.1, .ref q3, .int b7.2.2.2.2.1, .int b7.2.2.2.2.2.1, .ref q4, .int b7.2.2.2.2.2.2.2.1, .ref q5, .ref q6, .ref q7, .int b7.2.2.2.2.2.2.2.2.2.2.2.1, .int b7.2.2.2.2.2.2.2.2.2.2.2.2.1, .int b7.2.2.2.2.2.2.2.2.2.2.2.2.2.1, .int b7.2.2.2.2.2.2.2.2.2.2.2.2.2.2.1, .ref q8, .int b7.2.2.2.2.2.2.2.2.2.2.2.2.2.2.2.2])), (q1, .inl (G.2.2.1, 946, .inl b7.1)), (q2, .inl (G.2.2.1, 5676, .inl b7.2.1)), (q3, .inl (G.2.2.1, 60, .inl b7.2.2.2.1)), (q4, .inl (G.2.2.1, 201, .inl b7.2.2.2.2.2.2.1)), (q5, .inl (G.2.2.1, 201, .inl b7.2.2.2.2.2.2.2.2.1)), (q6, .inl (G.2.2.1, 201, .inl b7.2.2.2.2.2.2.2.2.2.1)), (q7, .inl (G.2.2.1, 201, .inl b7.2.2.2.2.2.2.2.2.2.2.1)), (q8, .inl (G.2.2.1, 201, .inl b7.2.2.2.2.2.2.2.2.2.2.2.2.2.2.2.1))]) X (zg_runV X (zc_X8_saves G q0 q1 q2 q3 q4 q5 q6 q7 q8 b5.2 fu b7 hb7) gX8_learn_X8_saves rfl zh_X8_saves ⟨rfl, rfl⟩ ⟨Nat.le_of_ble_eq_true rfl, Nat.le_of_ble_eq_true rfl⟩ rfl rfl rfl (Nat.le_of_ble_eq_true rfl) ⟨Nat.le_of_ble_eq_true rfl, Nat.le_of_ble_eq_true rfl⟩ [0, 1, 2, 3, 4, 5, 6, 7, 8] (by decide) rfl rfl dX8_learn_35) rfl rfl ?_
      refine zg_aload_n X dX8_learn_38 rfl 0 rfl ?_
      obtain ⟨b8, hb8, hf⟩ := pl_b hf
      refine zg_cP1 X (zg_runV X (zc_X8_known G q0 q1 q2 q3 q4 q5 q6 q7 q8 b7 fu b8 hb8) gX8_learn_X8_known rfl zh_X8_known ⟨rfl, rfl⟩ ⟨Nat.le_of_ble_eq_true rfl, Nat.le_of_ble_eq_true rfl⟩ rfl rfl rfl (Nat.le_of_ble_eq_true rfl) ⟨Nat.le_of_ble_eq_true rfl, Nat.le_of_ble_eq_true rfl⟩ [0, 1, 2, 3, 4, 5, 6, 7, 8] (by decide) rfl rfl dX8_learn_39) rfl ?_
      refine zg_istore_n (L' := [(1, .int b8), (0, .ref q0)]) X dX8_learn_42 rfl (by decide) rfl ?_
      refine zg_iload_n X dX8_learn_43 rfl 0 rfl ?_
      refine zg_aload_n X dX8_learn_44 rfl 1 rfl ?_
      refine zg_get (C := RX8) (T := TX8) (N := 17) X 0 0 hiX8 rfl rfl (by decide) hw0 rfl dX8_learn_45 ?_
      refine zg_sipush (v := 805) X dX8_learn_48 (by decide) ?_
      refine zg_iald X 1 rfl (by unfold vp_in; decide) dX8_learn_51 ?_
      obtain ⟨x9, ex9, hf⟩ := pl_l hf
      refine zg_topi ex9 ?_
      refine zg_icmp_ne (tgt := 131) X dX8_learn_52 (by decide) (fun c10 => ?_) (fun c10 => ?_)
      · have hf := pl_f c10 hf
        refine zg_loc [1] rfl ?_
        exact hb131 b7.1 b7.2.1 b7.2.2.1 b7.2.2.2.1 b7.2.2.2.2.1 b7.2.2.2.2.2.1 b7.2.2.2.2.2.2.1 b7.2.2.2.2.2.2.2.1 b7.2.2.2.2.2.2.2.2.1 b7.2.2.2.2.2.2.2.2.2.1 b7.2.2.2.2.2.2.2.2.2.2.1 b7.2.2.2.2.2.2.2.2.2.2.2.1 b7.2.2.2.2.2.2.2.2.2.2.2.2.1 b7.2.2.2.2.2.2.2.2.2.2.2.2.2.1 b7.2.2.2.2.2.2.2.2.2.2.2.2.2.2.1 b7.2.2.2.2.2.2.2.2.2.2.2.2.2.2.2.1 b7.2.2.2.2.2.2.2.2.2.2.2.2.2.2.2.2 hf
      · have hf := pl_t c10 hf
        refine zg_aload_n X dX8_learn_55 rfl 1 rfl ?_
        refine zg_get (C := RX8) (T := TX8) (N := 17) X 0 0 hiX8 rfl rfl (by decide) hw0 rfl dX8_learn_56 ?_
        refine zg_sipush (v := 806) X dX8_learn_59 (by decide) ?_
        refine zg_iload_n X dX8_learn_62 rfl 0 rfl ?_
        refine zg_iadd X dX8_learn_63 ?_
        refine zg_aload_n X dX8_learn_64 rfl 1 rfl ?_
        refine zg_get (C := RX8) (T := TX8) (N := 17) X 0 4 hiX8 rfl rfl (by decide) hw1 rfl dX8_learn_65 ?_
        obtain ⟨hin, hf⟩ := pl_in hf
        obtain ⟨f11, ef11, hf⟩ := pl_l hf
        refine zg_iast (ws' := [(q0, .inr (7, [.ref q1, .ref q2, .int b7.2.2.1, .ref q3, .int b7.2.2.2.2.1, .int b7.2.2.2.2.2.1, .ref q4, .int b7.2.2.2.2.2.2.2.1, .ref q5, .ref q6, .ref q7, .int b7.2.2.2.2.2.2.2.2.2.2.2.1, .int b7.2.2.2.2.2.2.2.2.2.2.2.2.1, .int b7.2.2.2.2.2.2.2.2.2.2.2.2.2.1, .int b7.2.2.2.2.2.2.2.2.2.2.2.2.2.2.1, .ref q8, .int b7.2.2.2.2.2.2.2.2.2.2.2.2.2.2.2.2])), (q1, .inl (G.2.2.1, 946, .inl f11)), (q2, .inl (G.2.2.1, 5676, .inl b7.2.1)), (q3, .inl (G.2.2.1, 60, .inl b7.2.2.2.1)), (q4, .inl (G.2.2.1, 201, .inl b7.2.2.2.2.2.2.1)), (q5, .inl (G.2.2.1, 201, .inl b7.2.2.2.2.2.2.2.2.1)), (q6, .inl (G.2.2.1, 201, .inl b7.2.2.2.2.2.2.2.2.2.1)), (q7, .inl (G.2.2.1, 201, .inl b7.2.2.2.2.2.2.2.2.2.2.1)), (q8, .inl (G.2.2.1, 201, .inl b7.2.2.2.2.2.2.2.2.2.2.2.2.2.2.2.1))]) X 1 rfl hin (by subst ef11; rfl) dX8_learn_68 ?_
        refine zg_iconst (v := 0) X dX8_learn_69 (by decide) ?_
        refine zg_istore_n (L' := [(2, .int 0), (1, .int b8), (0, .ref q0)]) X dX8_learn_70 rfl (by decide) rfl ?_
        refine zg_loc [2, 1, 0] rfl ?_
        exact hL71 fu b8 0 f11 b7.2.1 b7.2.2.1 b7.2.2.2.1 b7.2.2.2.2.1 b7.2.2.2.2.2.1 b7.2.2.2.2.2.2.1 b7.2.2.2.2.2.2.2.1 b7.2.2.2.2.2.2.2.2.1 b7.2.2.2.2.2.2.2.2.2.1 b7.2.2.2.2.2.2.2.2.2.2.1 b7.2.2.2.2.2.2.2.2.2.2.2.1 b7.2.2.2.2.2.2.2.2.2.2.2.2.1 b7.2.2.2.2.2.2.2.2.2.2.2.2.2.1 b7.2.2.2.2.2.2.2.2.2.2.2.2.2.2.1 b7.2.2.2.2.2.2.2.2.2.2.2.2.2.2.2.1 b7.2.2.2.2.2.2.2.2.2.2.2.2.2.2.2.2 hf
    · have hf := pl_f c6 hf
      refine zg_iconst (v := 0) X dX8_learn_32 (by decide) ?_
      have hf := Option.some.inj hf
      subst hf
      exact zg_iret X hF rfl rfl () rfl rfl (Nat.le_of_ble_eq_true rfl) (Nat.le_of_ble_eq_true rfl) dX8_learn_33
  unfold zf_X8_learn at hf
  refine zg_aload_n X dX8_learn_0 rfl 0 rfl ?_
  refine zg_aload_n X dX8_learn_1 rfl 0 rfl ?_
  obtain ⟨b1, hb1, hf⟩ := pl_b hf
  refine zg_cP1 X (zg_runV X (zc_X8_hasWord G q0 q1 q2 q3 q4 q5 q6 q7 q8 v0 fu b1 hb1) gX8_learn_X8_hasWord rfl zh_X8_hasWord ⟨rfl, rfl⟩ ⟨Nat.le_of_ble_eq_true rfl, Nat.le_of_ble_eq_true rfl⟩ rfl rfl rfl (Nat.le_of_ble_eq_true rfl) ⟨Nat.le_of_ble_eq_true rfl, Nat.le_of_ble_eq_true rfl⟩ [0, 1, 2, 3, 4, 5, 6, 7, 8] (by decide) rfl rfl dX8_learn_2) rfl ?_
  refine zg_if_ne (tgt := 12) X dX8_learn_5 (by decide) (fun c2 => ?_) (fun c2 => ?_)
  · have hf := pl_f c2 hf
    refine zg_aload_n X dX8_learn_12 rfl 0 rfl ?_
    obtain ⟨b3, hb3, hf⟩ := pl_b hf
    refine zg_cP1 X (zg_runV X (zc_X8_known G q0 q1 q2 q3 q4 q5 q6 q7 q8 v0 fu b3 hb3) gX8_learn_X8_known rfl zh_X8_known ⟨rfl, rfl⟩ ⟨Nat.le_of_ble_eq_true rfl, Nat.le_of_ble_eq_true rfl⟩ rfl rfl rfl (Nat.le_of_ble_eq_true rfl) ⟨Nat.le_of_ble_eq_true rfl, Nat.le_of_ble_eq_true rfl⟩ [0, 1, 2, 3, 4, 5, 6, 7, 8] (by decide) rfl rfl dX8_learn_13) rfl ?_
    refine zg_bipush (v := 20) X dX8_learn_16 (by decide) ?_
    refine zg_icmp_ne (tgt := 25) X dX8_learn_18 (by decide) (fun c4 => ?_) (fun c4 => ?_)
    · have hf := pl_f c4 hf
      refine zg_iconst (v := 0) X dX8_learn_25 (by decide) ?_
      exact hb26 0 v0.1 v0.2.1 v0.2.2.1 v0.2.2.2.1 v0.2.2.2.2.1 v0.2.2.2.2.2.1 v0.2.2.2.2.2.2.1 v0.2.2.2.2.2.2.2.1 v0.2.2.2.2.2.2.2.2.1 v0.2.2.2.2.2.2.2.2.2.1 v0.2.2.2.2.2.2.2.2.2.2.1 v0.2.2.2.2.2.2.2.2.2.2.2.1 v0.2.2.2.2.2.2.2.2.2.2.2.2.1 v0.2.2.2.2.2.2.2.2.2.2.2.2.2.1 v0.2.2.2.2.2.2.2.2.2.2.2.2.2.2.1 v0.2.2.2.2.2.2.2.2.2.2.2.2.2.2.2.1 v0.2.2.2.2.2.2.2.2.2.2.2.2.2.2.2.2 hf
    · have hf := pl_t c4 hf
      refine zg_iconst (v := 2) X dX8_learn_21 (by decide) ?_
      refine zg_goto (tgt := 26) X dX8_learn_22 (by decide) ?_
      exact hb26 2 v0.1 v0.2.1 v0.2.2.1 v0.2.2.2.1 v0.2.2.2.2.1 v0.2.2.2.2.2.1 v0.2.2.2.2.2.2.1 v0.2.2.2.2.2.2.2.1 v0.2.2.2.2.2.2.2.2.1 v0.2.2.2.2.2.2.2.2.2.1 v0.2.2.2.2.2.2.2.2.2.2.1 v0.2.2.2.2.2.2.2.2.2.2.2.1 v0.2.2.2.2.2.2.2.2.2.2.2.2.1 v0.2.2.2.2.2.2.2.2.2.2.2.2.2.1 v0.2.2.2.2.2.2.2.2.2.2.2.2.2.2.1 v0.2.2.2.2.2.2.2.2.2.2.2.2.2.2.2.1 v0.2.2.2.2.2.2.2.2.2.2.2.2.2.2.2.2 hf
  · have hf := pl_t c2 hf
    refine zg_iconst (v := 1) X dX8_learn_8 (by decide) ?_
    refine zg_goto (tgt := 26) X dX8_learn_9 (by decide) ?_
    exact hb26 1 v0.1 v0.2.1 v0.2.2.1 v0.2.2.2.1 v0.2.2.2.2.1 v0.2.2.2.2.2.1 v0.2.2.2.2.2.2.1 v0.2.2.2.2.2.2.2.1 v0.2.2.2.2.2.2.2.2.1 v0.2.2.2.2.2.2.2.2.2.1 v0.2.2.2.2.2.2.2.2.2.2.1 v0.2.2.2.2.2.2.2.2.2.2.2.1 v0.2.2.2.2.2.2.2.2.2.2.2.2.1 v0.2.2.2.2.2.2.2.2.2.2.2.2.2.1 v0.2.2.2.2.2.2.2.2.2.2.2.2.2.2.1 v0.2.2.2.2.2.2.2.2.2.2.2.2.2.2.2.1 v0.2.2.2.2.2.2.2.2.2.2.2.2.2.2.2.2 hf
