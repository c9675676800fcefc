def zf_L_refuses_b248 (fu : Nat) (fn : Nat) (z0 : Int32) (v : zTR) : Option (Int32 × zTR) := if z0 = 0 then (some (0, v)) else ((zf_L_append fu v 49).bind fun r42 => if r42.1 = 1 then ((zf_L_learn fu r42.2).bind fun r44 => if r44.1 = (-2) then ((zf_X7_clearBuffer fu r44.2).bind fun r46 => if r46.1 = 1 then (some (1, r46.2)) else (some (0, r46.2))) else (some (0, r44.2))) else (some (0, r42.2)))
def zf_L_refuses_b247 (fu : Nat) (fn : Nat) (v : zTR) : Option (Int32 × zTR) := zf_L_refuses_b248 fu fn 0 v
def zf_L_refuses (fu : Nat) (fn : Nat) (v0 : zTR) (a1 : Int32) : Option (Int32 × zTR) := (zf_X7_clearBuffer fu v0).bind fun r1 => if r1.1 < 0 then (zf_L_refuses_b247 fu fn r1.2) else ((zf_L_send fu r1.2).bind fun r3 => if r3.1 = (-2) then ((zf_L_learn fu r3.2).bind fun r5 => if r5.1 = (-2) then ((zf_L_setFault fu r5.2 ((200 : Int32) + a1) 0).bind fun r7 => if r7.1 = (-3) then ((zf_L_setFault fu r7.2 ((-1 : Int32) - a1) 9).bind fun r9 => if r9.1 = (-3) then ((zf_L_setFault fu r9.2 0 ((6 : Int32) + a1)).bind fun r11 => if r11.1 = (-2) then ((zf_L_setFault fu r11.2 0 ((-2 : Int32) - a1)).bind fun r13 => if r13.1 = (-2) then ((zf_L_forget fu r13.2 ((20 : Int32) + a1)).bind fun r15 => if r15.1 = (-2) then ((zf_L_forget fu r15.2 ((-1 : Int32) - a1)).bind fun r17 => if r17.1 = (-2) then ((zf_X7_sent fu r17.2).bind fun r19 => (zf_L_sentCode fu r17.2 (r19 + a1)).bind fun r20 => if r20 = (-2) then ((zf_X7_received fu r17.2).bind fun r22 => (zf_L_receivedCode fu r17.2 (r22 + a1)).bind fun r23 => if r23 = (-2) then ((zf_L_wordLetter fu r17.2 ((20 : Int32) + a1) 0).bind fun r25 => if r25 = (-2) then ((zf_L_uses fu r17.2 ((-1 : Int32) - a1)).bind fun r27 => if r27 = (-2) then ((zf_X7_segments fu r17.2).bind fun r29 => (zf_L_segmentKind fu r17.2 (r29 + a1)).bind fun r30 => if r30 = (-2) then ((zf_X7_received fu r17.2).bind fun r32 => (zf_L_doubtfulWith fu r17.2 ((r32 + (1 : Int32)) + a1) 30).bind fun r33 => if r33 = (-3) then ((zf_L_doubtfulWith fu r17.2 0 ((32 : Int32) + a1)).bind fun r35 => if r35 = (-2) then ((zf_L_append fu r17.2 ((128 : Int32) + a1)).bind fun r37 => if r37.1 = (-2) then ((zf_L_append fu r37.2 ((65 : Int32) + (a1 - a1 / 26 * 26))).bind fun r39 => if r39.1 = (-2) then (zf_L_refuses_b248 fu fn 1 r39.2) else (zf_L_refuses_b247 fu fn r39.2)) else (zf_L_refuses_b247 fu fn r37.2)) else (zf_L_refuses_b247 fu fn r17.2)) else (zf_L_refuses_b247 fu fn r17.2)) else (zf_L_refuses_b247 fu fn r17.2)) else (zf_L_refuses_b247 fu fn r17.2)) else (zf_L_refuses_b247 fu fn r17.2)) else (zf_L_refuses_b247 fu fn r17.2)) else (zf_L_refuses_b247 fu fn r17.2)) else (zf_L_refuses_b247 fu fn r17.2)) else (zf_L_refuses_b247 fu fn r15.2)) else (zf_L_refuses_b247 fu fn r13.2)) else (zf_L_refuses_b247 fu fn r11.2)) else (zf_L_refuses_b247 fu fn r9.2)) else (zf_L_refuses_b247 fu fn r7.2)) else (zf_L_refuses_b247 fu fn r5.2)) else (zf_L_refuses_b247 fu fn r3.2))
theorem zh_L_refuses : yL_refuses.cls ≠ "java/lang/invoke/MethodHandle" ∧ yL_refuses.cls ≠ "java/lang/invoke/VarHandle" ∧ (parseMethodDescriptor yL_refuses.desc).map (fun d => d.parameters.length) = some 2 := by decide +kernel
set_option maxHeartbeats 40000000 in
set_option maxRecDepth 20000 in
theorem zc_L_refuses (G : zgG) (hst : G.1.stackTraces = false) (a hb : Nat → Nat) (v0 : zTR) (a1 : Int32) (fu fn : Nat) (hfn : fn ≤ 250) (res : (Int32 × zTR)) (hf : zf_L_refuses fu fn v0 a1 = some res) : zgCt (σ := Nat → Nat) G yL_refuses wsL_refuses ({ frames := 10, cells := 19, slots := 114, locals := 224 } : Room) [.ref (a 0), .int a1] (zTc G a hb v0) (fun _ => some (.int res.1)) (fun h => zTc G a h res.2) 19 114 := by
  refine zg_of (own := RL) (cc := cL_refuses) (nL := 4) (ret := (some .boolean)) (by decide +kernel) rfl rfl (Nat.le_of_ble_eq_true rfl) (fun Z X hF => ?_)
  show zgGd G Z ({ frames := 10, cells := 19, slots := 114, locals := 224 } : Room) 0 0 4 (zTc G a hb v0) 0 [(0, .ref (a 0)), (1, .int a1)] []
  have hB248 : ∀ (hb : Nat → Nat) (kc ks : Nat) (z0 : Int32) (v : zTR), kc + (2) ≤ 19 → ks + 6 * (2) ≤ 114 → zf_L_refuses_b248 fu fn z0 v = some res → zgGd G Z ({ frames := 10, cells := 19, slots := 114, locals := 224 } : Room) kc ks 4 (zTc G a hb v) 248 [(0, .ref (a 0))] [.int z0] := by
    intro hb kc ks z0 v hkc hks hf
    unfold zf_L_refuses_b248 at hf
    refine zg_istore_n (L' := [(3, .int z0), (0, .ref (a 0))]) X dL_refuses_248 rfl (by decide) rfl ?_
    refine zg_iload_n X dL_refuses_249 rfl 0 rfl ?_
    refine zg_if_eq (tgt := 284) X dL_refuses_250 (by decide) (fun c41 => ?_) (fun c41 => ?_)
    · have hf := pl_t c41 hf
      refine zg_iconst (v := 0) X dL_refuses_284 (by decide) ?_
      have hf := Option.some.inj hf
      subst hf
      exact zg_iret X hF rfl rfl hb rfl rfl (by omega) (by omega) dL_refuses_285
    · have hf := pl_f c41 hf
      refine zg_aload_n X dL_refuses_253 rfl 1 rfl ?_
      refine zg_bipush (v := 49) X dL_refuses_254 (by decide) ?_
      obtain ⟨r42, hr42, hf⟩ := pl_b hf
      refine zg_t1 (v' := r42.2) X (zg_runSW X (zc_L_append G hst a hb v 49 fu r42 hr42) gL_refuses_L_append rfl zh_L_append ⟨rfl, rfl⟩ ⟨Nat.le_of_ble_eq_true rfl, Nat.le_of_ble_eq_true rfl⟩ rfl (Nat.le_of_ble_eq_true rfl) ⟨(show kc + 1 ≤ 19 by omega), (show ks + 6 ≤ 114 by omega)⟩ zI1 zT_nd zT_ix rfl dL_refuses_256) (fun u => ⟨u, rfl⟩) (fun _ => rfl) (fun hb => ?_)
      refine zg_iconst (v := 1) X dL_refuses_259 (by decide) ?_
      refine zg_icmp_ne (tgt := 284) X dL_refuses_260 (by decide) (fun c43 => ?_) (fun c43 => ?_)
      · have hf := pl_f c43 hf
        refine zg_iconst (v := 0) X dL_refuses_284 (by decide) ?_
        have hf := Option.some.inj hf
        subst hf
        exact zg_iret X hF rfl rfl hb rfl rfl (by omega) (by omega) dL_refuses_285
      · have hf := pl_t c43 hf
        refine zg_aload_n X dL_refuses_263 rfl 1 rfl ?_
        obtain ⟨r44, hr44, hf⟩ := pl_b hf
        refine zg_t1 (v' := r44.2) X (zg_runSW X (zc_L_learn G hst a hb r42.2 fu r44 hr44) gL_refuses_L_learn rfl zh_L_learn ⟨rfl, rfl⟩ ⟨Nat.le_of_ble_eq_true rfl, Nat.le_of_ble_eq_true rfl⟩ rfl (Nat.le_of_ble_eq_true rfl) ⟨(show (kc + 1) + 1 ≤ 19 by omega), (show (ks + 6) + 6 ≤ 114 by omega)⟩ zI1 zT_nd zT_ix rfl dL_refuses_264) (fun u => ⟨u, rfl⟩) (fun _ => rfl) (fun hb => ?_)
        refine zg_bipush (v := (-2)) X dL_refuses_267 (by decide) ?_
        refine zg_icmp_ne (tgt := 284) X dL_refuses_269 (by decide) (fun c45 => ?_) (fun c45 => ?_)
        · have hf := pl_f c45 hf
          refine zg_iconst (v := 0) X dL_refuses_284 (by decide) ?_
          have hf := Option.some.inj hf
          subst hf
          exact zg_iret X hF rfl rfl hb rfl rfl (by omega) (by omega) dL_refuses_285
        · have hf := pl_t c45 hf
          refine zg_aload_n X dL_refuses_272 rfl 1 rfl ?_
          obtain ⟨r46, hr46, hf⟩ := pl_b hf
          refine zg_t10 (v' := r46.2) X (zg_runV X (zt_X7_clearBuffer G a hb r44.2 fu r46 hr46) gL_refuses_X7_clearBuffer rfl zh_X7_clearBuffer ⟨rfl, rfl⟩ ⟨Nat.le_of_ble_eq_true rfl, Nat.le_of_ble_eq_true rfl⟩ rfl rfl rfl (Nat.le_of_ble_eq_true rfl) ⟨(show ((kc + 1) + 1) + 0 ≤ 19 by omega), (show ((ks + 6) + 6) + 0 ≤ 114 by omega)⟩ zI1 zT_nd zT_ix rfl dL_refuses_273) ⟨_, rfl⟩ (fun hb => ?_)
          refine zg_iconst (v := 1) X dL_refuses_276 (by decide) ?_
          refine zg_icmp_ne (tgt := 284) X dL_refuses_277 (by decide) (fun c47 => ?_) (fun c47 => ?_)
          · have hf := pl_f c47 hf
            refine zg_iconst (v := 0) X dL_refuses_284 (by decide) ?_
            have hf := Option.some.inj hf
            subst hf
            exact zg_iret X hF rfl rfl hb rfl rfl (by omega) (by omega) dL_refuses_285
          · have hf := pl_t c47 hf
            refine zg_iconst (v := 1) X dL_refuses_280 (by decide) ?_
            refine zg_goto (tgt := 285) X dL_refuses_281 (by decide) ?_
            have hf := Option.some.inj hf
            subst hf
            exact zg_iret X hF rfl rfl hb rfl rfl (by omega) (by omega) dL_refuses_285
  have hB247 : ∀ (hb : Nat → Nat) (kc ks : Nat) (v : zTR), kc + (2) ≤ 19 → ks + 6 * (2) ≤ 114 → zf_L_refuses_b247 fu fn v = some res → zgGd G Z ({ frames := 10, cells := 19, slots := 114, locals := 224 } : Room) kc ks 4 (zTc G a hb v) 247 [(0, .ref (a 0))] [] := by
    intro hb kc ks v hkc hks hf
    unfold zf_L_refuses_b247 at hf
    refine zg_iconst (v := 0) X dL_refuses_247 (by decide) ?_
    exact hB248 hb kc ks 0 v (by omega) (by omega) hf
  unfold zf_L_refuses at hf
  refine zg_aload_n X dL_refuses_0 rfl 0 rfl ?_
  obtain ⟨r1, hr1, hf⟩ := pl_b hf
  refine zg_t10 (v' := r1.2) X (zg_runV X (zt_X7_clearBuffer G a hb v0 fu r1 hr1) gL_refuses_X7_clearBuffer rfl zh_X7_clearBuffer ⟨rfl, rfl⟩ ⟨Nat.le_of_ble_eq_true rfl, Nat.le_of_ble_eq_true rfl⟩ rfl rfl rfl (Nat.le_of_ble_eq_true rfl) ⟨(show 0 + 0 ≤ 19 by omega), (show 0 + 0 ≤ 114 by omega)⟩ zI1 zT_nd zT_ix rfl dL_refuses_1) ⟨_, rfl⟩ (fun hb => ?_)
  refine zg_istore_n (L' := [(2, .int r1.1), (0, .ref (a 0)), (1, .int a1)]) X dL_refuses_4 rfl (by decide) rfl ?_
  refine zg_iload_n X dL_refuses_5 rfl 0 rfl ?_
  refine zg_if_lt (tgt := 247) X dL_refuses_6 (by decide) (fun c2 => ?_) (fun c2 => ?_)
  · have hf := pl_t c2 hf
    refine zg_loc [1] rfl ?_
    exact hB247 hb 0 0 r1.2 (by omega) (by omega) hf
  · have hf := pl_f c2 hf
    refine zg_aload_n X dL_refuses_9 rfl 1 rfl ?_
    obtain ⟨r3, hr3, hf⟩ := pl_b hf
    refine zg_t1 (v' := r3.2) X (zg_runSW X (zc_L_send G hst a hb r1.2 fu r3 hr3) gL_refuses_L_send rfl zh_L_send ⟨rfl, rfl⟩ ⟨Nat.le_of_ble_eq_true rfl, Nat.le_of_ble_eq_true rfl⟩ rfl (Nat.le_of_ble_eq_true rfl) ⟨(show 0 + 1 ≤ 19 by omega), (show 0 + 6 ≤ 114 by omega)⟩ zI1 zT_nd zT_ix rfl dL_refuses_10) (fun u => ⟨u, rfl⟩) (fun _ => rfl) (fun hb => ?_)
    refine zg_bipush (v := (-2)) X dL_refuses_13 (by decide) ?_
    refine zg_icmp_ne (tgt := 247) X dL_refuses_15 (by decide) (fun c4 => ?_) (fun c4 => ?_)
    · have hf := pl_f c4 hf
      refine zg_loc [1] rfl ?_
      exact hB247 hb (0 + 1) (0 + 6) r3.2 (by omega) (by omega) hf
    · have hf := pl_t c4 hf
      refine zg_aload_n X dL_refuses_18 rfl 1 rfl ?_
      obtain ⟨r5, hr5, hf⟩ := pl_b hf
      refine zg_t1 (v' := r5.2) X (zg_runSW X (zc_L_learn G hst a hb r3.2 fu r5 hr5) gL_refuses_L_learn rfl zh_L_learn ⟨rfl, rfl⟩ ⟨Nat.le_of_ble_eq_true rfl, Nat.le_of_ble_eq_true rfl⟩ rfl (Nat.le_of_ble_eq_true rfl) ⟨(show (0 + 1) + 1 ≤ 19 by omega), (show (0 + 6) + 6 ≤ 114 by omega)⟩ zI1 zT_nd zT_ix rfl dL_refuses_19) (fun u => ⟨u, rfl⟩) (fun _ => rfl) (fun hb => ?_)
      refine zg_bipush (v := (-2)) X dL_refuses_22 (by decide) ?_
      refine zg_icmp_ne (tgt := 247) X dL_refuses_24 (by decide) (fun c6 => ?_) (fun c6 => ?_)
      · have hf := pl_f c6 hf
        refine zg_loc [1] rfl ?_
        exact hB247 hb ((0 + 1) + 1) ((0 + 6) + 6) r5.2 (by omega) (by omega) hf
      · have hf := pl_t c6 hf
        refine zg_aload_n X dL_refuses_27 rfl 1 rfl ?_
        refine zg_sipush (v := 200) X dL_refuses_28 (by decide) ?_
        refine zg_iload_n X dL_refuses_31 rfl 2 rfl ?_
        refine zg_iadd X dL_refuses_32 ?_
        refine zg_iconst (v := 0) X dL_refuses_33 (by decide) ?_
        obtain ⟨r7, hr7, hf⟩ := pl_b hf
        refine zg_t1 (v' := r7.2) X (zg_runSW X (zc_L_setFault G hst a hb r5.2 ((200 : Int32) + a1) 0 fu r7 hr7) gL_refuses_L_setFault rfl zh_L_setFault ⟨rfl, rfl⟩ ⟨Nat.le_of_ble_eq_true rfl, Nat.le_of_ble_eq_true rfl⟩ rfl (Nat.le_of_ble_eq_true rfl) ⟨(show ((0 + 1) + 1) + 1 ≤ 19 by omega), (show ((0 + 6) + 6) + 6 ≤ 114 by omega)⟩ zI1 zT_nd zT_ix rfl dL_refuses_34) (fun u => ⟨u, rfl⟩) (fun _ => rfl) (fun hb => ?_)
        refine zg_bipush (v := (-3)) X dL_refuses_37 (by decide) ?_
        refine zg_icmp_ne (tgt := 247) X dL_refuses_39 (by decide) (fun c8 => ?_) (fun c8 => ?_)
        · have hf := pl_f c8 hf
          refine zg_loc [1] rfl ?_
          exact hB247 hb (((0 + 1) + 1) + 1) (((0 + 6) + 6) + 6) r7.2 (by omega) (by omega) hf
        · have hf := pl_t c8 hf
          refine zg_aload_n X dL_refuses_42 rfl 1 rfl ?_
          refine zg_iconst (v := (-1)) X dL_refuses_43 (by decide) ?_
          refine zg_iload_n X dL_refuses_44 rfl 2 rfl ?_
          refine zg_isub X dL_refuses_45 ?_
          refine zg_bipush (v := 9) X dL_refuses_46 (by decide) ?_
          obtain ⟨r9, hr9, hf⟩ := pl_b hf
          refine zg_t1 (v' := r9.2) X (zg_runSW X (zc_L_setFault G hst a hb r7.2 ((-1 : Int32) - a1) 9 fu r9 hr9) gL_refuses_L_setFault rfl zh_L_setFault ⟨rfl, rfl⟩ ⟨Nat.le_of_ble_eq_true rfl, Nat.le_of_ble_eq_true rfl⟩ rfl (Nat.le_of_ble_eq_true rfl) ⟨(show (((0 + 1) + 1) + 1) + 1 ≤ 19 by omega), (show (((0 + 6) + 6) + 6) + 6 ≤ 114 by omega)⟩ zI1 zT_nd zT_ix rfl dL_refuses_48) (fun u => ⟨u, rfl⟩) (fun _ => rfl) (fun hb => ?_)
          refine zg_bipush (v := (-3)) X dL_refuses_51 (by decide) ?_
          refine zg_icmp_ne (tgt := 247) X dL_refuses_53 (by decide) (fun c10 => ?_) (fun c10 => ?_)
          · have hf := pl_f c10 hf
            refine zg_loc [1] rfl ?_
            exact hB247 hb ((((0 + 1) + 1) + 1) + 1) ((((0 + 6) + 6) + 6) + 6) r9.2 (by omega) (by omega) hf
          · have hf := pl_t c10 hf
            refine zg_aload_n X dL_refuses_56 rfl 1 rfl ?_
            refine zg_iconst (v := 0) X dL_refuses_57 (by decide) ?_
            refine zg_bipush (v := 6) X dL_refuses_58 (by decide) ?_
            refine zg_iload_n X dL_refuses_60 rfl 2 rfl ?_
            refine zg_iadd X dL_refuses_61 ?_
            obtain ⟨r11, hr11, hf⟩ := pl_b hf
            refine zg_t1 (v' := r11.2) X (zg_runSW X (zc_L_setFault G hst a hb r9.2 0 ((6 : Int32) + a1) fu r11 hr11) gL_refuses_L_setFault rfl zh_L_setFault ⟨rfl, rfl⟩ ⟨Nat.le_of_ble_eq_true rfl, Nat.le_of_ble_eq_true rfl⟩ rfl (Nat.le_of_ble_eq_true rfl) ⟨(show ((((0 + 1) + 1) + 1) + 1) + 1 ≤ 19 by omega), (show ((((0 + 6) + 6) + 6) + 6) + 6 ≤ 114 by omega)⟩ zI1 zT_nd zT_ix rfl dL_refuses_62) (fun u => ⟨u, rfl⟩) (fun _ => rfl) (fun hb => ?_)
            refine zg_bipush (v := (-2)) X dL_refuses_65 (by decide) ?_
            refine zg_icmp_ne (tgt := 247) X dL_refuses_67 (by decide) (fun c12 => ?_) (fun c12 => ?_)
            · have hf := pl_f c12 hf
              refine zg_loc [1] rfl ?_
              exact hB247 hb (((((0 + 1) + 1) + 1) + 1) + 1) (((((0 + 6) + 6) + 6) + 6) + 6) r11.2 (by omega) (by omega) hf
            · have hf := pl_t c12 hf
              refine zg_aload_n X dL_refuses_70 rfl 1 rfl ?_
              refine zg_iconst (v := 0) X dL_refuses_71 (by decide) ?_
              refine zg_bipush (v := (-2)) X dL_refuses_72 (by decide) ?_
              refine zg_iload_n X dL_refuses_74 rfl 2 rfl ?_
              refine zg_isub X dL_refuses_75 ?_
              obtain ⟨r13, hr13, hf⟩ := pl_b hf
              refine zg_t1 (v' := r13.2) X (zg_runSW X (zc_L_setFault G hst a hb r11.2 0 ((-2 : Int32) - a1) fu r13 hr13) gL_refuses_L_setFault rfl zh_L_setFault ⟨rfl, rfl⟩ ⟨Nat.le_of_ble_eq_true rfl, Nat.le_of_ble_eq_true rfl⟩ rfl (Nat.le_of_ble_eq_true rfl) ⟨(show (((((0 + 1) + 1) + 1) + 1) + 1) + 1 ≤ 19 by omega), (show (((((0 + 6) + 6) + 6) + 6) + 6) + 6 ≤ 114 by omega)⟩ zI1 zT_nd zT_ix rfl dL_refuses_76) (fun u => ⟨u, rfl⟩) (fun _ => rfl) (fun hb => ?_)
              refine zg_bipush (v := (-2)) X dL_refuses_79 (by decide) ?_
              refine zg_icmp_ne (tgt := 247) X dL_refuses_81 (by decide) (fun c14 => ?_) (fun c14 => ?_)
              · have hf := pl_f c14 hf
                refine zg_loc [1] rfl ?_
                exact hB247 hb ((((((0 + 1) + 1) + 1) + 1) + 1) + 1) ((((((0 + 6) + 6) + 6) + 6) + 6) + 6) r13.2 (by omega) (by omega) hf
              · have hf := pl_t c14 hf
                refine zg_aload_n X dL_refuses_84 rfl 1 rfl ?_
                refine zg_bipush (v := 20) X dL_refuses_85 (by decide) ?_
                refine zg_iload_n X dL_refuses_87 rfl 2 rfl ?_
                refine zg_iadd X dL_refuses_88 ?_
                obtain ⟨r15, hr15, hf⟩ := pl_b hf
                refine zg_t1 (v' := r15.2) X (zg_runSW X (zc_L_forget G hst a hb r13.2 ((20 : Int32) + a1) fu r15 hr15) gL_refuses_L_forget rfl zh_L_forget ⟨rfl, rfl⟩ ⟨Nat.le_of_ble_eq_true rfl, Nat.le_of_ble_eq_true rfl⟩ rfl (Nat.le_of_ble_eq_true rfl) ⟨(show ((((((0 + 1) + 1) + 1) + 1) + 1) + 1) + 1 ≤ 19 by omega), (show ((((((0 + 6) + 6) + 6) + 6) + 6) + 6) + 6 ≤ 114 by omega)⟩ zI1 zT_nd zT_ix rfl dL_refuses_89) (fun u => ⟨u, rfl⟩) (fun _ => rfl) (fun hb => ?_)
                refine zg_bipush (v := (-2)) X dL_refuses_92 (by decide) ?_
                refine zg_icmp_ne (tgt := 247) X dL_refuses_94 (by decide) (fun c16 => ?_) (fun c16 => ?_)
                · have hf := pl_f c16 hf
                  refine zg_loc [1] rfl ?_
                  exact hB247 hb (((((((0 + 1) + 1) + 1) + 1) + 1) + 1) + 1) (((((((0 + 6) + 6) + 6) + 6) + 6) + 6) + 6) r15.2 (by omega) (by omega) hf
                · have hf := pl_t c16 hf
                  refine zg_aload_n X dL_refuses_97 rfl 1 rfl ?_
                  refine zg_iconst (v := (-1)) X dL_refuses_98 (by decide) ?_
                  refine zg_iload_n X dL_refuses_99 rfl 2 rfl ?_
                  refine zg_isub X dL_refuses_100 ?_
                  obtain ⟨r17, hr17, hf⟩ := pl_b hf
                  refine zg_t1 (v' := r17.2) X (zg_runSW X (zc_L_forget G hst a hb r15.2 ((-1 : Int32) - a1) fu r17 hr17) gL_refuses_L_forget rfl zh_L_forget ⟨rfl, rfl⟩ ⟨Nat.le_of_ble_eq_true rfl, Nat.le_of_ble_eq_true rfl⟩ rfl (Nat.le_of_ble_eq_true rfl) ⟨(show (((((((0 + 1) + 1) + 1) + 1) + 1) + 1) + 1) + 1 ≤ 19 by omega), (show (((((((0 + 6) + 6) + 6) + 6) + 6) + 6) + 6) + 6 ≤ 114 by omega)⟩ zI1 zT_nd zT_ix rfl dL_refuses_101) (fun u => ⟨u, rfl⟩) (fun _ => rfl) (fun hb => ?_)
                  refine zg_bipush (v := (-2)) X dL_refuses_104 (by decide) ?_
                  refine zg_icmp_ne (tgt := 247) X dL_refuses_106 (by decide) (fun c18 => ?_) (fun c18 => ?_)
                  · have hf := pl_f c18 hf
                    refine zg_loc [1] rfl ?_
                    exact hB247 hb ((((((((0 + 1) + 1) + 1) + 1) + 1) + 1) + 1) + 1) ((((((((0 + 6) + 6) + 6) + 6) + 6) + 6) + 6) + 6) r17.2 (by omega) (by omega) hf
                  · have hf := pl_t c18 hf
                    refine zg_aload_n X dL_refuses_109 rfl 1 rfl ?_
                    refine zg_aload_n X dL_refuses_110 rfl 1 rfl ?_
                    obtain ⟨r19, hr19, hf⟩ := pl_b hf
                    refine zg_t10 (v' := r17.2) X (zg_runV X (zt_X7_sent G a hb r17.2 fu r19 hr19) gL_refuses_X7_sent rfl zh_X7_sent ⟨rfl, rfl⟩ ⟨Nat.le_of_ble_eq_true rfl, Nat.le_of_ble_eq_true rfl⟩ rfl rfl rfl (Nat.le_of_ble_eq_true rfl) ⟨(show ((((((((0 + 1) + 1) + 1) + 1) + 1) + 1) + 1) + 1) + 0 ≤ 19 by omega), (show ((((((((0 + 6) + 6) + 6) + 6) + 6) + 6) + 6) + 6) + 0 ≤ 114 by omega)⟩ zI1 zT_nd zT_ix rfl dL_refuses_111) ⟨_, rfl⟩ (fun hb => ?_)
                    refine zg_iload_n X dL_refuses_114 rfl 2 rfl ?_
                    refine zg_iadd X dL_refuses_115 ?_
                    obtain ⟨r20, hr20, hf⟩ := pl_b hf
                    refine zg_t1 (v' := r17.2) X (zg_runSW X (zc_L_sentCode G hst a hb r17.2 (r19 + a1) fu r20 hr20) gL_refuses_L_sentCode rfl zh_L_sentCode ⟨rfl, rfl⟩ ⟨Nat.le_of_ble_eq_true rfl, Nat.le_of_ble_eq_true rfl⟩ rfl (Nat.le_of_ble_eq_true rfl) ⟨(show ((((((((0 + 1) + 1) + 1) + 1) + 1) + 1) + 1) + 1) + 1 ≤ 19 by omega), (show ((((((((0 + 6) + 6) + 6) + 6) + 6) + 6) + 6) + 6) + 6 ≤ 114 by omega)⟩ zI1 zT_nd zT_ix rfl dL_refuses_116) (fun u => ⟨u, rfl⟩) (fun _ => rfl) (fun hb => ?_)
                    refine zg_bipush (v := (-2)) X dL_refuses_119 (by decide) ?_
                    refine zg_icmp_ne (tgt := 247) X dL_refuses_121 (by decide) (fun c21 => ?_) (fun c21 => ?_)
                    · have hf := pl_f c21 hf
                      refine zg_loc [1] rfl ?_
                      exact hB247 hb (((((((((0 + 1) + 1) + 1) + 1) + 1) + 1) + 1) + 1) + 1) (((((((((0 + 6) + 6) + 6) + 6) + 6) + 6) + 6) + 6) + 6) r17.2 (by omega) (by omega) hf
                    · have hf := pl_t c21 hf
                      refine zg_aload_n X dL_refuses_124 rfl 1 rfl ?_
                      refine zg_aload_n X dL_refuses_125 rfl 1 rfl ?_
                      obtain ⟨r22, hr22, hf⟩ := pl_b hf
                      refine zg_t10 (v' := r17.2) X (zg_runV X (zt_X7_received G a hb r17.2 fu r22 hr22) gL_refuses_X7_received rfl zh_X7_received ⟨rfl, rfl⟩ ⟨Nat.le_of_ble_eq_true rfl, Nat.le_of_ble_eq_true rfl⟩ rfl rfl rfl (Nat.le_of_ble_eq_true rfl) ⟨(show (((((((((0 + 1) + 1) + 1) + 1) + 1) + 1) + 1) + 1) + 1) + 0 ≤ 19 by omega), (show (((((((((0 + 6) + 6) + 6) + 6) + 6) + 6) + 6) + 6) + 6) + 0 ≤ 114 by omega)⟩ zI1 zT_nd zT_ix rfl dL_refuses_126) ⟨_, rfl⟩ (fun hb => ?_)
                      refine zg_iload_n X dL_refuses_129 rfl 2 rfl ?_
                      refine zg_iadd X dL_refuses_130 ?_
                      obtain ⟨r23, hr23, hf⟩ := pl_b hf
                      refine zg_t1 (v' := r17.2) X (zg_runSW X (zc_L_receivedCode G hst a hb r17.2 (r22 + a1) fu r23 hr23) gL_refuses_L_receivedCode rfl zh_L_receivedCode ⟨rfl, rfl⟩ ⟨Nat.le_of_ble_eq_true rfl, Nat.le_of_ble_eq_true rfl⟩ rfl (Nat.le_of_ble_eq_true rfl) ⟨(show (((((((((0 + 1) + 1) + 1) + 1) + 1) + 1) + 1) + 1) + 1) + 1 ≤ 19 by omega), (show (((((((((0 + 6) + 6) + 6) + 6) + 6) + 6) + 6) + 6) + 6) + 6 ≤ 114 by omega)⟩ zI1 zT_nd zT_ix rfl dL_refuses_131) (fun u => ⟨u, rfl⟩) (fun _ => rfl) (fun hb => ?_)
                      refine zg_bipush (v := (-2)) X dL_refuses_134 (by decide) ?_
                      refine zg_icmp_ne (tgt := 247) X dL_refuses_136 (by decide) (fun c24 => ?_) (fun c24 => ?_)
                      · have hf := pl_f c24 hf
                        refine zg_loc [1] rfl ?_
                        exact hB247 hb ((((((((((0 + 1) + 1) + 1) + 1) + 1) + 1) + 1) + 1) + 1) + 1) ((((((((((0 + 6) + 6) + 6) + 6) + 6) + 6) + 6) + 6) + 6) + 6) r17.2 (by omega) (by omega) hf
                      · have hf := pl_t c24 hf
                        refine zg_aload_n X dL_refuses_139 rfl 1 rfl ?_
                        refine zg_bipush (v := 20) X dL_refuses_140 (by decide) ?_
                        refine zg_iload_n X dL_refuses_142 rfl 2 rfl ?_
                        refine zg_iadd X dL_refuses_143 ?_
                        refine zg_iconst (v := 0) X dL_refuses_144 (by decide) ?_
                        obtain ⟨r25, hr25, hf⟩ := pl_b hf
                        refine zg_t1 (v' := r17.2) X (zg_runSW X (zc_L_wordLetter G hst a hb r17.2 ((20 : Int32) + a1) 0 fu r25 hr25) gL_refuses_L_wordLetter rfl zh_L_wordLetter ⟨rfl, rfl⟩ ⟨Nat.le_of_ble_eq_true rfl, Nat.le_of_ble_eq_true rfl⟩ rfl (Nat.le_of_ble_eq_true rfl) ⟨(show ((((((((((0 + 1) + 1) + 1) + 1) + 1) + 1) + 1) + 1) + 1) + 1) + 1 ≤ 19 by omega), (show ((((((((((0 + 6) + 6) + 6) + 6) + 6) + 6) + 6) + 6) + 6) + 6) + 6 ≤ 114 by omega)⟩ zI1 zT_nd zT_ix rfl dL_refuses_145) (fun u => ⟨u, rfl⟩) (fun _ => rfl) (fun hb => ?_)
                        refine zg_bipush (v := (-2)) X dL_refuses_148 (by decide) ?_
                        refine zg_icmp_ne (tgt := 247) X dL_refuses_150 (by decide) (fun c26 => ?_) (fun c26 => ?_)
                        · have hf := pl_f c26 hf
                          refine zg_loc [1] rfl ?_
                          exact hB247 hb (((((((((((0 + 1) + 1) + 1) + 1) + 1) + 1) + 1) + 1) + 1) + 1) + 1) (((((((((((0 + 6) + 6) + 6) + 6) + 6) + 6) + 6) + 6) + 6) + 6) + 6) r17.2 (by omega) (by omega) hf
                        · have hf := pl_t c26 hf
                          refine zg_aload_n X dL_refuses_153 rfl 1 rfl ?_
                          refine zg_iconst (v := (-1)) X dL_refuses_154 (by decide) ?_
                          refine zg_iload_n X dL_refuses_155 rfl 2 rfl ?_
                          refine zg_isub X dL_refuses_156 ?_
                          obtain ⟨r27, hr27, hf⟩ := pl_b hf
                          refine zg_t1 (v' := r17.2) X (zg_runSW X (zc_L_uses G hst a hb r17.2 ((-1 : Int32) - a1) fu r27 hr27) gL_refuses_L_uses rfl zh_L_uses ⟨rfl, rfl⟩ ⟨Nat.le_of_ble_eq_true rfl, Nat.le_of_ble_eq_true rfl⟩ rfl (Nat.le_of_ble_eq_true rfl) ⟨(show (((((((((((0 + 1) + 1) + 1) + 1) + 1) + 1) + 1) + 1) + 1) + 1) + 1) + 1 ≤ 19 by omega), (show (((((((((((0 + 6) + 6) + 6) + 6) + 6) + 6) + 6) + 6) + 6) + 6) + 6) + 6 ≤ 114 by omega)⟩ zI1 zT_nd zT_ix rfl dL_refuses_157) (fun u => ⟨u, rfl⟩) (fun _ => rfl) (fun hb => ?_)
                          refine zg_bipush (v := (-2)) X dL_refuses_160 (by decide) ?_
                          refine zg_icmp_ne (tgt := 247) X dL_refuses_162 (by decide) (fun c28 => ?_) (fun c28 => ?_)
                          · have hf := pl_f c28 hf
                            refine zg_loc [1] rfl ?_
                            exact hB247 hb ((((((((((((0 + 1) + 1) + 1) + 1) + 1) + 1) + 1) + 1) + 1) + 1) + 1) + 1) ((((((((((((0 + 6) + 6) + 6) + 6) + 6) + 6) + 6) + 6) + 6) + 6) + 6) + 6) r17.2 (by omega) (by omega) hf
                          · have hf := pl_t c28 hf
                            refine zg_aload_n X dL_refuses_165 rfl 1 rfl ?_
                            refine zg_aload_n X dL_refuses_166 rfl 1 rfl ?_
                            obtain ⟨r29, hr29, hf⟩ := pl_b hf
                            refine zg_t10 (v' := r17.2) X (zg_runV X (zt_X7_segments G a hb r17.2 fu r29 hr29) gL_refuses_X7_segments rfl zh_X7_segments ⟨rfl, rfl⟩ ⟨Nat.le_of_ble_eq_true rfl, Nat.le_of_ble_eq_true rfl⟩ rfl rfl rfl (Nat.le_of_ble_eq_true rfl) ⟨(show ((((((((((((0 + 1) + 1) + 1) + 1) + 1) + 1) + 1) + 1) + 1) + 1) + 1) + 1) + 0 ≤ 19 by omega), (show ((((((((((((0 + 6) + 6) + 6) + 6) + 6) + 6) + 6) + 6) + 6) + 6) + 6) + 6) + 0 ≤ 114 by omega)⟩ zI1 zT_nd zT_ix rfl dL_refuses_167) ⟨_, rfl⟩ (fun hb => ?_)
                            refine zg_iload_n X dL_refuses_170 rfl 2 rfl ?_
                            refine zg_iadd X dL_refuses_171 ?_
                            obtain ⟨r30, hr30, hf⟩ := pl_b hf
                            refine zg_t1 (v' := r17.2) X (zg_runSW X (zc_L_segmentKind G hst a hb r17.2 (r29 + a1) fu r30 hr30) gL_refuses_L_segmentKind rfl zh_L_segmentKind ⟨rfl, rfl⟩ ⟨Nat.le_of_ble_eq_true rfl, Nat.le_of_ble_eq_true rfl⟩ rfl (Nat.le_of_ble_eq_true rfl) ⟨(show ((((((((((((0 + 1) + 1) + 1) + 1) + 1) + 1) + 1) + 1) + 1) + 1) + 1) + 1) + 1 ≤ 19 by omega), (show ((((((((((((0 + 6) + 6) + 6) + 6) + 6) + 6) + 6) + 6) + 6) + 6) + 6) + 6) + 6 ≤ 114 by omega)⟩ zI1 zT_nd zT_ix rfl dL_refuses_172) (fun u => ⟨u, rfl⟩) (fun _ => rfl) (fun hb => ?_)
                            refine zg_bipush (v := (-2)) X dL_refuses_175 (by decide) ?_
                            refine zg_icmp_ne (tgt := 247) X dL_refuses_177 (by decide) (fun c31 => ?_) (fun c31 => ?_)
                            · have hf := pl_f c31 hf
                              refine zg_loc [1] rfl ?_
                              exact hB247 hb (((((((((((((0 + 1) + 1) + 1) + 1) + 1) + 1) + 1) + 1) + 1) + 1) + 1) + 1) + 1) (((((((((((((0 + 6) + 6) + 6) + 6) + 6) + 6) + 6) + 6) + 6) + 6) + 6) + 6) + 6) r17.2 (by omega) (by omega) hf
                            · have hf := pl_t c31 hf
                              refine zg_aload_n X dL_refuses_180 rfl 1 rfl ?_
                              refine zg_aload_n X dL_refuses_181 rfl 1 rfl ?_
                              obtain ⟨r32, hr32, hf⟩ := pl_b hf
                              refine zg_t10 (v' := r17.2) X (zg_runV X (zt_X7_received G a hb r17.2 fu r32 hr32) gL_refuses_X7_received rfl zh_X7_received ⟨rfl, rfl⟩ ⟨Nat.le_of_ble_eq_true rfl, Nat.le_of_ble_eq_true rfl⟩ rfl rfl rfl (Nat.le_of_ble_eq_true rfl) ⟨(show (((((((((((((0 + 1) + 1) + 1) + 1) + 1) + 1) + 1) + 1) + 1) + 1) + 1) + 1) + 1) + 0 ≤ 19 by omega), (show (((((((((((((0 + 6) + 6) + 6) + 6) + 6) + 6) + 6) + 6) + 6) + 6) + 6) + 6) + 6) + 0 ≤ 114 by omega)⟩ zI1 zT_nd zT_ix rfl dL_refuses_182) ⟨_, rfl⟩ (fun hb => ?_)
                              refine zg_iconst (v := 1) X dL_refuses_185 (by decide) ?_
                              refine zg_iadd X dL_refuses_186 ?_
                              refine zg_iload_n X dL_refuses_187 rfl 2 rfl ?_
                              refine zg_iadd X dL_refuses_188 ?_
                              refine zg_bipush (v := 30) X dL_refuses_189 (by decide) ?_
                              obtain ⟨r33, hr33, hf⟩ := pl_b hf
                              refine zg_t1 (v' := r17.2) X (zg_runSW X (zc_L_doubtfulWith G hst a hb r17.2 ((r32 + (1 : Int32)) + a1) 30 fu r33 hr33) gL_refuses_L_doubtfulWith rfl zh_L_doubtfulWith ⟨rfl, rfl⟩ ⟨Nat.le_of_ble_eq_true rfl, Nat.le_of_ble_eq_true rfl⟩ rfl (Nat.le_of_ble_eq_true rfl) ⟨(show (((((((((((((0 + 1) + 1) + 1) + 1) + 1) + 1) + 1) + 1) + 1) + 1) + 1) + 1) + 1) + 1 ≤ 19 by omega), (show (((((((((((((0 + 6) + 6) + 6) + 6) + 6) + 6) + 6) + 6) + 6) + 6) + 6) + 6) + 6) + 6 ≤ 114 by omega)⟩ zI1 zT_nd zT_ix rfl dL_refuses_191) (fun u => ⟨u, rfl⟩) (fun _ => rfl) (fun hb => ?_)
                              refine zg_bipush (v := (-3)) X dL_refuses_194 (by decide) ?_
                              refine zg_icmp_ne (tgt := 247) X dL_refuses_196 (by decide) (fun c34 => ?_) (fun c34 => ?_)
                              · have hf := pl_f c34 hf
                                refine zg_loc [1] rfl ?_
                                exact hB247 hb ((((((((((((((0 + 1) + 1) + 1) + 1) + 1) + 1) + 1) + 1) + 1) + 1) + 1) + 1) + 1) + 1) ((((((((((((((0 + 6) + 6) + 6) + 6) + 6) + 6) + 6) + 6) + 6) + 6) + 6) + 6) + 6) + 6) r17.2 (by omega) (by omega) hf
                              · have hf := pl_t c34 hf
                                refine zg_aload_n X dL_refuses_199 rfl 1 rfl ?_
                                refine zg_iconst (v := 0) X dL_refuses_200 (by decide) ?_
                                refine zg_bipush (v := 32) X dL_refuses_201 (by decide) ?_
                                refine zg_iload_n X dL_refuses_203 rfl 2 rfl ?_
                                refine zg_iadd X dL_refuses_204 ?_
                                obtain ⟨r35, hr35, hf⟩ := pl_b hf
                                refine zg_t1 (v' := r17.2) X (zg_runSW X (zc_L_doubtfulWith G hst a hb r17.2 0 ((32 : Int32) + a1) fu r35 hr35) gL_refuses_L_doubtfulWith rfl zh_L_doubtfulWith ⟨rfl, rfl⟩ ⟨Nat.le_of_ble_eq_true rfl, Nat.le_of_ble_eq_true rfl⟩ rfl (Nat.le_of_ble_eq_true rfl) ⟨(show ((((((((((((((0 + 1) + 1) + 1) + 1) + 1) + 1) + 1) + 1) + 1) + 1) + 1) + 1) + 1) + 1) + 1 ≤ 19 by omega), (show ((((((((((((((0 + 6) + 6) + 6) + 6) + 6) + 6) + 6) + 6) + 6) + 6) + 6) + 6) + 6) + 6) + 6 ≤ 114 by omega)⟩ zI1 zT_nd zT_ix rfl dL_refuses_205) (fun u => ⟨u, rfl⟩) (fun _ => rfl) (fun hb => ?_)
                                refine zg_bipush (v := (-2)) X dL_refuses_208 (by decide) ?_
                                refine zg_icmp_ne (tgt := 247) X dL_refuses_210 (by decide) (fun c36 => ?_) (fun c36 => ?_)
                                · have hf := pl_f c36 hf
                                  refine zg_loc [1] rfl ?_
                                  exact hB247 hb (((((((((((((((0 + 1) + 1) + 1) + 1) + 1) + 1) + 1) + 1) + 1) + 1) + 1) + 1) + 1) + 1) + 1) (((((((((((((((0 + 6) + 6) + 6) + 6) + 6) + 6) + 6) + 6) + 6) + 6) + 6) + 6) + 6) + 6) + 6) r17.2 (by omega) (by omega) hf
                                · have hf := pl_t c36 hf
                                  refine zg_aload_n X dL_refuses_213 rfl 1 rfl ?_
                                  refine zg_sipush (v := 128) X dL_refuses_214 (by decide) ?_
                                  refine zg_iload_n X dL_refuses_217 rfl 2 rfl ?_
                                  refine zg_iadd X dL_refuses_218 ?_
                                  obtain ⟨r37, hr37, hf⟩ := pl_b hf
                                  refine zg_t1 (v' := r37.2) X (zg_runSW X (zc_L_append G hst a hb r17.2 ((128 : Int32) + a1) fu r37 hr37) gL_refuses_L_append rfl zh_L_append ⟨rfl, rfl⟩ ⟨Nat.le_of_ble_eq_true rfl, Nat.le_of_ble_eq_true rfl⟩ rfl (Nat.le_of_ble_eq_true rfl) ⟨(show (((((((((((((((0 + 1) + 1) + 1) + 1) + 1) + 1) + 1) + 1) + 1) + 1) + 1) + 1) + 1) + 1) + 1) + 1 ≤ 19 by omega), (show (((((((((((((((0 + 6) + 6) + 6) + 6) + 6) + 6) + 6) + 6) + 6) + 6) + 6) + 6) + 6) + 6) + 6) + 6 ≤ 114 by omega)⟩ zI1 zT_nd zT_ix rfl dL_refuses_219) (fun u => ⟨u, rfl⟩) (fun _ => rfl) (fun hb => ?_)
                                  refine zg_bipush (v := (-2)) X dL_refuses_222 (by decide) ?_
                                  refine zg_icmp_ne (tgt := 247) X dL_refuses_224 (by decide) (fun c38 => ?_) (fun c38 => ?_)
                                  · have hf := pl_f c38 hf
                                    refine zg_loc [1] rfl ?_
                                    exact hB247 hb ((((((((((((((((0 + 1) + 1) + 1) + 1) + 1) + 1) + 1) + 1) + 1) + 1) + 1) + 1) + 1) + 1) + 1) + 1) ((((((((((((((((0 + 6) + 6) + 6) + 6) + 6) + 6) + 6) + 6) + 6) + 6) + 6) + 6) + 6) + 6) + 6) + 6) r37.2 (by omega) (by omega) hf
                                  · have hf := pl_t c38 hf
                                    refine zg_aload_n X dL_refuses_227 rfl 1 rfl ?_
                                    refine zg_bipush (v := 65) X dL_refuses_228 (by decide) ?_
                                    refine zg_iload_n X dL_refuses_230 rfl 2 rfl ?_
                                    refine zg_bipush (v := 26) X dL_refuses_231 (by decide) ?_
                                    refine zg_irem X dL_refuses_233 (by decide) ?_
                                    refine zg_iadd X dL_refuses_234 ?_
                                    obtain ⟨r39, hr39, hf⟩ := pl_b hf
                                    refine zg_t1 (v' := r39.2) X (zg_runSW X (zc_L_append G hst a hb r37.2 ((65 : Int32) + (a1 - a1 / 26 * 26)) fu r39 hr39) gL_refuses_L_append rfl zh_L_append ⟨rfl, rfl⟩ ⟨Nat.le_of_ble_eq_true rfl, Nat.le_of_ble_eq_true rfl⟩ rfl (Nat.le_of_ble_eq_true rfl) ⟨(show ((((((((((((((((0 + 1) + 1) + 1) + 1) + 1) + 1) + 1) + 1) + 1) + 1) + 1) + 1) + 1) + 1) + 1) + 1) + 1 ≤ 19 by omega), (show ((((((((((((((((0 + 6) + 6) + 6) + 6) + 6) + 6) + 6) + 6) + 6) + 6) + 6) + 6) + 6) + 6) + 6) + 6) + 6 ≤ 114 by omega)⟩ zI1 zT_nd zT_ix rfl dL_refuses_235) (fun u => ⟨u, rfl⟩) (fun _ => rfl) (fun hb => ?_)
                                    refine zg_bipush (v := (-2)) X dL_refuses_238 (by decide) ?_
                                    refine zg_icmp_ne (tgt := 247) X dL_refuses_240 (by decide) (fun c40 => ?_) (fun c40 => ?_)
                                    · have hf := pl_f c40 hf
                                      refine zg_loc [1] rfl ?_
                                      exact hB247 hb (((((((((((((((((0 + 1) + 1) + 1) + 1) + 1) + 1) + 1) + 1) + 1) + 1) + 1) + 1) + 1) + 1) + 1) + 1) + 1) (((((((((((((((((0 + 6) + 6) + 6) + 6) + 6) + 6) + 6) + 6) + 6) + 6) + 6) + 6) + 6) + 6) + 6) + 6) + 6) r39.2 (by omega) (by omega) hf
                                    · have hf := pl_t c40 hf
                                      refine zg_iconst (v := 1) X dL_refuses_243 (by decide) ?_
                                      refine zg_goto (tgt := 248) X dL_refuses_244 (by decide) ?_
                                      refine zg_loc [1] rfl ?_
                                      exact hB248 hb (((((((((((((((((0 + 1) + 1) + 1) + 1) + 1) + 1) + 1) + 1) + 1) + 1) + 1) + 1) + 1) + 1) + 1) + 1) + 1) (((((((((((((((((0 + 6) + 6) + 6) + 6) + 6) + 6) + 6) + 6) + 6) + 6) + 6) + 6) + 6) + 6) + 6) + 6) + 6) 1 r39.2 (by omega) (by omega) hf
