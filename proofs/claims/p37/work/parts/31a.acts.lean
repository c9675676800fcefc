def zf_L_acts_b88 (fu : Nat) (fn : Nat) (z1 : Int32) (v : zTR) : Option (Int32 × zTR) := (zf_X7_unshiftOnSpace fu v z1).bind fun r29 => if r29.1 = 0 then (some (0, r29.2)) else (some (1, r29.2))
def zf_L_acts_L127 (fu : Nat) (fn : Nat) : Nat → Int32 → Int32 → Int32 → zTR → Option (Int32 × zTR)
  | 0, _, _, _, _ => none
  | n + 1, y2, y3, y4, v => if ((1 : Int32) + (y2 - y2 / 3 * 3)) ≤ y4 then (if 0 ≤ y3 then ((zf_L_learn fu v).bind fun r33 => some (r33.1, r33.2)) else (some ((-9), v))) else ((zf_L_append fu v ((97 : Int32) + (((y2 / 4) >>> (((2 : Int32) * y4) &&& 31)) - ((y2 / 4) >>> (((2 : Int32) * y4) &&& 31)) / 3 * 3))).bind fun r34 => zlet (y4 + 1) fun x35 => zf_L_acts_L127 fu fn n y2 r34.1 x35 r34.2)
def zf_L_acts_b307 (fu : Nat) (fn : Nat) (rec198 : Int32 → Int32 → Int32 → zTR → Option (Int32 × zTR)) (y2 : Int32) (y5 : Int32) (z1 : Int32) (v : zTR) : Option (Int32 × zTR) := (zf_L_append fu v z1).bind fun r46 => zlet (y5 + 1) fun x47 => rec198 y2 r46.1 x47 r46.2
def zf_L_acts_L198 (fu : Nat) (fn : Nat) : Nat → Int32 → Int32 → Int32 → zTR → Option (Int32 × zTR)
  | 0, _, _, _, _ => none
  | n + 1, y2, y4, y5, v => if ((1 : Int32) + (y2 - y2 / 8 * 8)) ≤ y5 then (if 0 ≤ y4 then ((zf_L_send fu v).bind fun r38 => some (r38.1, r38.2)) else (some ((-9), v))) else (zlet ((y2 / 8) >>> (((2 : Int32) * y5) &&& 31)) fun x39 => zlet (x39 - x39 / 16 * 16) fun x40 => if 7 ≤ x40 then (if 10 ≤ x40 then (if 13 ≤ x40 then (if x40 = 13 then (zf_L_acts_b307 fu fn (zf_L_acts_L198 fu fn n) y2 y5 64 v) else (if x40 = 14 then (zf_L_acts_b307 fu fn (zf_L_acts_L198 fu fn n) y2 y5 35 v) else (zf_L_acts_b307 fu fn (zf_L_acts_L198 fu fn n) y2 y5 10 v))) else (zf_L_acts_b307 fu fn (zf_L_acts_L198 fu fn n) y2 y5 32 v)) else (zf_L_acts_b307 fu fn (zf_L_acts_L198 fu fn n) y2 y5 ((48 : Int32) + ((x39 / 16) - (x39 / 16) / 10 * 10)) v)) else (zf_L_acts_b307 fu fn (zf_L_acts_L198 fu fn n) y2 y5 ((97 : Int32) + ((x39 / 16) - (x39 / 16) / 3 * 3)) v))
def zf_L_acts (fu : Nat) (fn : Nat) (v0 : zTR) (a1 : Int32) : Option (Int32 × zTR) := zlet (a1 / 32) fun x1 => if a1 - a1 / 32 * 32 = 0 then (if (x1 - x1 / 2 * 2) = 0 then (zf_L_acts_b88 fu fn 1 v0) else (zf_L_acts_b88 fu fn 0 v0)) else if a1 - a1 / 32 * 32 = 1 then (if (x1 - x1 / 2 * 2) = 0 then (zf_L_acts_b88 fu fn 1 v0) else (zf_L_acts_b88 fu fn 0 v0)) else if a1 - a1 / 32 * 32 = 2 then ((zf_L_setFault fu v0 (x1 - x1 / 120 * 120) (((x1 / 128) - (x1 / 128) / 7 * 7) - (1 : Int32))).bind fun r7 => some (r7.1, r7.2)) else if a1 - a1 / 32 * 32 = 3 then ((zf_L_setFault fu v0 (x1 - x1 / 120 * 120) (((x1 / 128) - (x1 / 128) / 7 * 7) - (1 : Int32))).bind fun r9 => some (r9.1, r9.2)) else if a1 - a1 / 32 * 32 = 4 then ((zf_L_setFault fu v0 (x1 - x1 / 120 * 120) (((x1 / 128) - (x1 / 128) / 7 * 7) - (1 : Int32))).bind fun r11 => some (r11.1, r11.2)) else if a1 - a1 / 32 * 32 = 5 then ((zf_L_setFault fu v0 (x1 - x1 / 120 * 120) (((x1 / 128) - (x1 / 128) / 7 * 7) - (1 : Int32))).bind fun r13 => some (r13.1, r13.2)) else if a1 - a1 / 32 * 32 = 6 then ((zf_X7_clearBuffer fu v0).bind fun r15 => zf_L_acts_L127 fu fn fn x1 r15.1 0 r15.2) else if a1 - a1 / 32 * 32 = 7 then ((zf_X7_clearBuffer fu v0).bind fun r17 => zf_L_acts_L127 fu fn fn x1 r17.1 0 r17.2) else if a1 - a1 / 32 * 32 = 8 then ((zf_X7_clearBuffer fu v0).bind fun r19 => zf_L_acts_L127 fu fn fn x1 r19.1 0 r19.2) else if a1 - a1 / 32 * 32 = 9 then ((zf_X7_clearBuffer fu v0).bind fun r21 => zf_L_acts_L127 fu fn fn x1 r21.1 0 r21.2) else if a1 - a1 / 32 * 32 = 10 then ((zf_L_forget fu v0 (x1 - x1 / 8 * 8)).bind fun r23 => some (r23.1, r23.2)) else if a1 - a1 / 32 * 32 = 11 then ((zf_L_undo fu v0).bind fun r25 => some (r25.1, r25.2)) else if a1 - a1 / 32 * 32 = 12 then ((zf_L_undo fu v0).bind fun r27 => some (r27.1, r27.2)) else ((zf_X7_clearBuffer fu v0).bind fun r28 => zf_L_acts_L198 fu fn fn x1 r28.1 0 r28.2)
theorem zh_L_acts : yL_acts.cls ≠ "java/lang/invoke/MethodHandle" ∧ yL_acts.cls ≠ "java/lang/invoke/VarHandle" ∧ (parseMethodDescriptor yL_acts.desc).map (fun d => d.parameters.length) = some 2 := by decide +kernel
set_option maxHeartbeats 40000000 in
set_option maxRecDepth 20000 in
theorem zc_L_acts (G : zgG) (hst : G.1.stackTraces = false) (a hb : Nat → Nat) (v0 : zTR) (a1 : Int32) (fu fn : Nat) (hfn : fn ≤ 250) (res : (Int32 × zTR)) (hf : zf_L_acts fu fn v0 a1 = some res) : zgCt (σ := Nat → Nat) G yL_acts wsL_acts ({ frames := 10, cells := 251, slots := 1506, locals := 224 } : Room) [.ref (a 0), .int a1] (zTc G a hb v0) (fun _ => some (.int res.1)) (fun h => zTc G a h res.2) 251 1506 := by
  refine zg_of (own := RL) (cc := cL_acts) (nL := 8) (ret := (some .int)) (by decide +kernel) rfl rfl (Nat.le_of_ble_eq_true rfl) (fun Z X hF => ?_)
  show zgGd G Z ({ frames := 10, cells := 251, slots := 1506, locals := 224 } : Room) 0 0 8 (zTc G a hb v0) 0 [(0, .ref (a 0)), (1, .int a1)] []
  have hB88 : ∀ (hb : Nat → Nat) (kc ks : Nat) (z1 : Int32) (v : zTR), kc + (0) ≤ 251 → ks + 6 * (0) ≤ 1506 → zf_L_acts_b88 fu fn z1 v = some res → zgGd G Z ({ frames := 10, cells := 251, slots := 1506, locals := 224 } : Room) kc ks 8 (zTc G a hb v) 88 [] [.int z1, .ref (a 0)] := by
    intro hb kc ks z1 v hkc hks hf
    unfold zf_L_acts_b88 at hf
    obtain ⟨r29, hr29, hf⟩ := pl_b hf
    refine zg_t10 (v' := r29.2) X (zg_runV X (zt_X7_unshiftOnSpace G a hb v z1 fu r29 hr29) gL_acts_X7_unshiftOnSpace rfl zh_X7_unshiftOnSpace ⟨rfl, rfl⟩ ⟨Nat.le_of_ble_eq_true rfl, Nat.le_of_ble_eq_true rfl⟩ rfl rfl rfl (Nat.le_of_ble_eq_true rfl) ⟨(show kc + 0 ≤ 251 by omega), (show ks + 0 ≤ 1506 by omega)⟩ zI1 zT_nd zT_ix rfl dL_acts_88) ⟨_, rfl⟩ (fun hb => ?_)
    refine zg_if_eq (tgt := 98) X dL_acts_91 (by decide) (fun c30 => ?_) (fun c30 => ?_)
    · have hf := pl_t c30 hf
      refine zg_iconst (v := 0) X dL_acts_98 (by decide) ?_
      have hf := Option.some.inj hf
      subst hf
      exact zg_iret X hF rfl rfl hb rfl rfl (by omega) (by omega) dL_acts_99
    · have hf := pl_f c30 hf
      refine zg_iconst (v := 1) X dL_acts_94 (by decide) ?_
      refine zg_goto (tgt := 99) X dL_acts_95 (by decide) ?_
      have hf := Option.some.inj hf
      subst hf
      exact zg_iret X hF rfl rfl hb rfl rfl (by omega) (by omega) dL_acts_99
  have hL127 : ∀ (n : Nat) (hb : Nat → Nat) (kc ks : Nat) (y2 : Int32) (y3 : Int32) (y4 : Int32) (v : zTR), kc + (1 + 1 * n) ≤ 251 → ks + 6 * (1 + 1 * n) ≤ 1506 → zf_L_acts_L127 fu fn n y2 y3 y4 v = some res → zgGd G Z ({ frames := 10, cells := 251, slots := 1506, locals := 224 } : Room) kc ks 8 (zTc G a hb v) 127 [(0, .ref (a 0)), (2, .int y2), (3, .int y3), (4, .int y4)] [] := by
    intro n
    induction n with
    | zero =>
      intro hb kc ks y2 y3 y4 v hkc hks hf
      rw [zf_L_acts_L127] at hf
      cases hf
    | succ n127 ih127 =>
      intro hb kc ks y2 y3 y4 v hkc hks hf
      rw [zf_L_acts_L127] at hf
      refine zg_iload X dL_acts_127 3 rfl ?_
      refine zg_iconst (v := 1) X dL_acts_129 (by decide) ?_
      refine zg_iload_n X dL_acts_130 rfl 1 rfl ?_
      refine zg_iconst (v := 3) X dL_acts_131 (by decide) ?_
      refine zg_irem X dL_acts_132 (by decide) ?_
      refine zg_iadd X dL_acts_133 ?_
      refine zg_icmp_ge (tgt := 161) X dL_acts_134 (by decide) (fun c31 => ?_) (fun c31 => ?_)
      · have hf := pl_t c31 hf
        refine zg_iload_n X dL_acts_161 rfl 2 rfl ?_
        refine zg_if_ge (tgt := 170) X dL_acts_162 (by decide) (fun c32 => ?_) (fun c32 => ?_)
        · have hf := pl_t c32 hf
          refine zg_aload_n X dL_acts_170 rfl 0 rfl ?_
          obtain ⟨r33, hr33, hf⟩ := pl_b hf
          refine zg_t1 (v' := r33.2) X (zg_runSW X (zc_L_learn G hst a hb v fu r33 hr33) gL_acts_L_learn rfl zh_L_learn ⟨rfl, rfl⟩ ⟨Nat.le_of_ble_eq_true rfl, Nat.le_of_ble_eq_true rfl⟩ rfl (Nat.le_of_ble_eq_true rfl) ⟨(show kc + 1 ≤ 251 by omega), (show ks + 6 ≤ 1506 by omega)⟩ zI1 zT_nd zT_ix rfl dL_acts_171) (fun u => ⟨u, rfl⟩) (fun _ => rfl) (fun hb => ?_)
          have hf := Option.some.inj hf
          subst hf
          exact zg_iret X hF rfl rfl hb rfl rfl (by omega) (by omega) dL_acts_174
        · have hf := pl_f c32 hf
          refine zg_bipush (v := (-9)) X dL_acts_165 (by decide) ?_
          refine zg_goto (tgt := 174) X dL_acts_167 (by decide) ?_
          have hf := Option.some.inj hf
          subst hf
          exact zg_iret X hF rfl rfl hb rfl rfl (by omega) (by omega) dL_acts_174
      · have hf := pl_f c31 hf
        refine zg_aload_n X dL_acts_137 rfl 0 rfl ?_
        refine zg_bipush (v := 97) X dL_acts_138 (by decide) ?_
        refine zg_iload_n X dL_acts_140 rfl 1 rfl ?_
        refine zg_iconst (v := 4) X dL_acts_141 (by decide) ?_
        refine zg_idiv X dL_acts_142 (by decide) ?_
        refine zg_iconst (v := 2) X dL_acts_143 (by decide) ?_
        refine zg_iload X dL_acts_144 3 rfl ?_
        refine zg_imul X dL_acts_146 ?_
        refine zg_ishr X dL_acts_147 ?_
        refine zg_iconst (v := 3) X dL_acts_148 (by decide) ?_
        refine zg_irem X dL_acts_149 (by decide) ?_
        refine zg_iadd X dL_acts_150 ?_
        obtain ⟨r34, hr34, hf⟩ := pl_b hf
        refine zg_t1 (v' := r34.2) X (zg_runSW X (zc_L_append G hst a hb v ((97 : Int32) + (((y2 / 4) >>> (((2 : Int32) * y4) &&& 31)) - ((y2 / 4) >>> (((2 : Int32) * y4) &&& 31)) / 3 * 3)) fu r34 hr34) gL_acts_L_append rfl zh_L_append ⟨rfl, rfl⟩ ⟨Nat.le_of_ble_eq_true rfl, Nat.le_of_ble_eq_true rfl⟩ rfl (Nat.le_of_ble_eq_true rfl) ⟨(show kc + 1 ≤ 251 by omega), (show ks + 6 ≤ 1506 by omega)⟩ zI1 zT_nd zT_ix rfl dL_acts_151) (fun u => ⟨u, rfl⟩) (fun _ => rfl) (fun hb => ?_)
        refine zg_istore_n (L' := [(3, .int r34.1), (0, .ref (a 0)), (2, .int y2), (4, .int y4)]) X dL_acts_154 rfl (by decide) rfl ?_
        obtain ⟨x35, ex35, hf⟩ := pl_l hf
        refine zg_iinc (v := x35) (L' := [(4, .int x35), (3, .int r34.1), (0, .ref (a 0)), (2, .int y2)]) X dL_acts_155 (j := 3) rfl (by rw [ex35]; rfl) (by decide) rfl ?_
        refine zg_goto (tgt := 127) X dL_acts_158 (by decide) ?_
        refine zg_loc [2, 3, 1, 0] rfl ?_
        exact ih127 hb (kc + 1) (ks + 6) y2 r34.1 x35 r34.2 (by omega) (by omega) hf
  have hL198 : ∀ (n : Nat) (hb : Nat → Nat) (kc ks : Nat) (y2 : Int32) (y4 : Int32) (y5 : Int32) (v : zTR), kc + (1 + 1 * n) ≤ 251 → ks + 6 * (1 + 1 * n) ≤ 1506 → zf_L_acts_L198 fu fn n y2 y4 y5 v = some res → zgGd G Z ({ frames := 10, cells := 251, slots := 1506, locals := 224 } : Room) kc ks 8 (zTc G a hb v) 198 [(0, .ref (a 0)), (2, .int y2), (4, .int y4), (5, .int y5)] [] := by
    intro n
    induction n with
    | zero =>
      intro hb kc ks y2 y4 y5 v hkc hks hf
      rw [zf_L_acts_L198] at hf
      cases hf
    | succ n198 ih198 =>
      have hB307 : ∀ (hb : Nat → Nat) (kc ks : Nat) (y2 : Int32) (y5 : Int32) (z1 : Int32) (v : zTR), kc + (2 + 1 * n198) ≤ 251 → ks + 6 * (2 + 1 * n198) ≤ 1506 → zf_L_acts_b307 fu fn (zf_L_acts_L198 fu fn n198) y2 y5 z1 v = some res → zgGd G Z ({ frames := 10, cells := 251, slots := 1506, locals := 224 } : Room) kc ks 8 (zTc G a hb v) 307 [(0, .ref (a 0)), (2, .int y2), (5, .int y5)] [.int z1, .ref (a 0)] := by
        intro hb kc ks y2 y5 z1 v hkc hks hf
        unfold zf_L_acts_b307 at hf
        obtain ⟨r46, hr46, hf⟩ := pl_b hf
        refine zg_t1 (v' := r46.2) X (zg_runSW X (zc_L_append G hst a hb v z1 fu r46 hr46) gL_acts_L_append rfl zh_L_append ⟨rfl, rfl⟩ ⟨Nat.le_of_ble_eq_true rfl, Nat.le_of_ble_eq_true rfl⟩ rfl (Nat.le_of_ble_eq_true rfl) ⟨(show kc + 1 ≤ 251 by omega), (show ks + 6 ≤ 1506 by omega)⟩ zI1 zT_nd zT_ix rfl dL_acts_307) (fun u => ⟨u, rfl⟩) (fun _ => rfl) (fun hb => ?_)
        refine zg_istore (L' := [(4, .int r46.1), (0, .ref (a 0)), (2, .int y2), (5, .int y5)]) X dL_acts_310 (by decide) rfl ?_
        obtain ⟨x47, ex47, hf⟩ := pl_l hf
        refine zg_iinc (v := x47) (L' := [(5, .int x47), (4, .int r46.1), (0, .ref (a 0)), (2, .int y2)]) X dL_acts_312 (j := 3) rfl (by rw [ex47]; rfl) (by decide) rfl ?_
        refine zg_goto (tgt := 198) X dL_acts_315 (by decide) ?_
        refine zg_loc [2, 3, 1, 0] rfl ?_
        exact ih198 hb (kc + 1) (ks + 6) y2 r46.1 x47 r46.2 (by omega) (by omega) hf
      intro hb kc ks y2 y4 y5 v hkc hks hf
      rw [zf_L_acts_L198] at hf
      refine zg_iload X dL_acts_198 3 rfl ?_
      refine zg_iconst (v := 1) X dL_acts_200 (by decide) ?_
      refine zg_iload_n X dL_acts_201 rfl 1 rfl ?_
      refine zg_bipush (v := 8) X dL_acts_202 (by decide) ?_
      refine zg_irem X dL_acts_204 (by decide) ?_
      refine zg_iadd X dL_acts_205 ?_
      refine zg_icmp_ge (tgt := 318) X dL_acts_206 (by decide) (fun c36 => ?_) (fun c36 => ?_)
      · have hf := pl_t c36 hf
        refine zg_iload X dL_acts_318 2 rfl ?_
        refine zg_if_ge (tgt := 328) X dL_acts_320 (by decide) (fun c37 => ?_) (fun c37 => ?_)
        · have hf := pl_t c37 hf
          refine zg_aload_n X dL_acts_328 rfl 0 rfl ?_
          obtain ⟨r38, hr38, hf⟩ := pl_b hf
          refine zg_t1 (v' := r38.2) X (zg_runSW X (zc_L_send G hst a hb v fu r38 hr38) gL_acts_L_send rfl zh_L_send ⟨rfl, rfl⟩ ⟨Nat.le_of_ble_eq_true rfl, Nat.le_of_ble_eq_true rfl⟩ rfl (Nat.le_of_ble_eq_true rfl) ⟨(show kc + 1 ≤ 251 by omega), (show ks + 6 ≤ 1506 by omega)⟩ zI1 zT_nd zT_ix rfl dL_acts_329) (fun u => ⟨u, rfl⟩) (fun _ => rfl) (fun hb => ?_)
          have hf := Option.some.inj hf
          subst hf
          exact zg_iret X hF rfl rfl hb rfl rfl (by omega) (by omega) dL_acts_332
        · have hf := pl_f c37 hf
          refine zg_bipush (v := (-9)) X dL_acts_323 (by decide) ?_
          refine zg_goto (tgt := 332) X dL_acts_325 (by decide) ?_
          have hf := Option.some.inj hf
          subst hf
          exact zg_iret X hF rfl rfl hb rfl rfl (by omega) (by omega) dL_acts_332
      · have hf := pl_f c36 hf
        refine zg_iload_n X dL_acts_209 rfl 1 rfl ?_
        refine zg_bipush (v := 8) X dL_acts_210 (by decide) ?_
        refine zg_idiv X dL_acts_212 (by decide) ?_
        refine zg_iconst (v := 2) X dL_acts_213 (by decide) ?_
        refine zg_iload X dL_acts_214 3 rfl ?_
        refine zg_imul X dL_acts_216 ?_
        refine zg_ishr X dL_acts_217 ?_
        obtain ⟨x39, ex39, hf⟩ := pl_l hf
        refine zg_topi ex39 ?_
        refine zg_istore (L' := [(6, .int x39), (0, .ref (a 0)), (2, .int y2), (4, .int y4), (5, .int y5)]) X dL_acts_218 (by decide) rfl ?_
        refine zg_iload X dL_acts_220 0 rfl ?_
        refine zg_bipush (v := 16) X dL_acts_222 (by decide) ?_
        refine zg_irem X dL_acts_224 (by decide) ?_
        obtain ⟨x40, ex40, hf⟩ := pl_l hf
        refine zg_topi ex40 ?_
        refine zg_istore (L' := [(7, .int x40), (6, .int x39), (0, .ref (a 0)), (2, .int y2), (4, .int y4), (5, .int y5)]) X dL_acts_225 (by decide) rfl ?_
        refine zg_aload_n X dL_acts_227 rfl 2 rfl ?_
        refine zg_iload X dL_acts_228 0 rfl ?_
        refine zg_bipush (v := 7) X dL_acts_230 (by decide) ?_
        refine zg_icmp_ge (tgt := 248) X dL_acts_232 (by decide) (fun c41 => ?_) (fun c41 => ?_)
        · have hf := pl_t c41 hf
          refine zg_iload X dL_acts_248 0 rfl ?_
          refine zg_bipush (v := 10) X dL_acts_250 (by decide) ?_
          refine zg_icmp_ge (tgt := 269) X dL_acts_252 (by decide) (fun c42 => ?_) (fun c42 => ?_)
          · have hf := pl_t c42 hf
            refine zg_iload X dL_acts_269 0 rfl ?_
            refine zg_bipush (v := 13) X dL_acts_271 (by decide) ?_
            refine zg_icmp_ge (tgt := 281) X dL_acts_273 (by decide) (fun c43 => ?_) (fun c43 => ?_)
            · have hf := pl_t c43 hf
              refine zg_iload X dL_acts_281 0 rfl ?_
              refine zg_bipush (v := 13) X dL_acts_283 (by decide) ?_
              refine zg_icmp_ne (tgt := 293) X dL_acts_285 (by decide) (fun c44 => ?_) (fun c44 => ?_)
              · have hf := pl_f c44 hf
                refine zg_iload X dL_acts_293 0 rfl ?_
                refine zg_bipush (v := 14) X dL_acts_295 (by decide) ?_
                refine zg_icmp_ne (tgt := 305) X dL_acts_297 (by decide) (fun c45 => ?_) (fun c45 => ?_)
                · have hf := pl_f c45 hf
                  refine zg_bipush (v := 10) X dL_acts_305 (by decide) ?_
                  refine zg_loc [2, 3, 5] rfl ?_
                  exact hB307 hb kc ks y2 y5 10 v (by omega) (by omega) hf
                · have hf := pl_t c45 hf
                  refine zg_bipush (v := 35) X dL_acts_300 (by decide) ?_
                  refine zg_goto (tgt := 307) X dL_acts_302 (by decide) ?_
                  refine zg_loc [2, 3, 5] rfl ?_
                  exact hB307 hb kc ks y2 y5 35 v (by omega) (by omega) hf
              · have hf := pl_t c44 hf
                refine zg_bipush (v := 64) X dL_acts_288 (by decide) ?_
                refine zg_goto (tgt := 307) X dL_acts_290 (by decide) ?_
                refine zg_loc [2, 3, 5] rfl ?_
                exact hB307 hb kc ks y2 y5 64 v (by omega) (by omega) hf
            · have hf := pl_f c43 hf
              refine zg_bipush (v := 32) X dL_acts_276 (by decide) ?_
              refine zg_goto (tgt := 307) X dL_acts_278 (by decide) ?_
              refine zg_loc [2, 3, 5] rfl ?_
              exact hB307 hb kc ks y2 y5 32 v (by omega) (by omega) hf
          · have hf := pl_f c42 hf
            refine zg_bipush (v := 48) X dL_acts_255 (by decide) ?_
            refine zg_iload X dL_acts_257 1 rfl ?_
            refine zg_bipush (v := 16) X dL_acts_259 (by decide) ?_
            refine zg_idiv X dL_acts_261 (by decide) ?_
            refine zg_bipush (v := 10) X dL_acts_262 (by decide) ?_
            refine zg_irem X dL_acts_264 (by decide) ?_
            refine zg_iadd X dL_acts_265 ?_
            refine zg_goto (tgt := 307) X dL_acts_266 (by decide) ?_
            refine zg_loc [2, 3, 5] rfl ?_
            exact hB307 hb kc ks y2 y5 ((48 : Int32) + ((x39 / 16) - (x39 / 16) / 10 * 10)) v (by omega) (by omega) hf
        · have hf := pl_f c41 hf
          refine zg_bipush (v := 97) X dL_acts_235 (by decide) ?_
          refine zg_iload X dL_acts_237 1 rfl ?_
          refine zg_bipush (v := 16) X dL_acts_239 (by decide) ?_
          refine zg_idiv X dL_acts_241 (by decide) ?_
          refine zg_iconst (v := 3) X dL_acts_242 (by decide) ?_
          refine zg_irem X dL_acts_243 (by decide) ?_
          refine zg_iadd X dL_acts_244 ?_
          refine zg_goto (tgt := 307) X dL_acts_245 (by decide) ?_
          refine zg_loc [2, 3, 5] rfl ?_
          exact hB307 hb kc ks y2 y5 ((97 : Int32) + ((x39 / 16) - (x39 / 16) / 3 * 3)) v (by omega) (by omega) hf
  unfold zf_L_acts at hf
  refine zg_iload_n X dL_acts_0 rfl 1 rfl ?_
  refine zg_bipush (v := 32) X dL_acts_1 (by decide) ?_
  refine zg_idiv X dL_acts_3 (by decide) ?_
  obtain ⟨x1, ex1, hf⟩ := pl_l hf
  refine zg_topi ex1 ?_
  refine zg_istore_n (L' := [(2, .int x1), (0, .ref (a 0)), (1, .int a1)]) X dL_acts_4 rfl (by decide) rfl ?_
  refine zg_iload_n X dL_acts_5 rfl 2 rfl ?_
  refine zg_bipush (v := 32) X dL_acts_6 (by decide) ?_
  refine zg_irem X dL_acts_8 (by decide) ?_
  by_cases c2 : a1 - a1 / 32 * 32 = 0
  · have hf := pl_t c2 hf
    refine zg_tblI (off := 67) (tgt := 76) X dL_acts_9 (by rw [c2]; decide) (by rw [c2]; decide) (by rw [c2]; rfl) (by decide) ?_
    refine zg_aload_n X dL_acts_76 rfl 1 rfl ?_
    refine zg_iload_n X dL_acts_77 rfl 0 rfl ?_
    refine zg_iconst (v := 2) X dL_acts_78 (by decide) ?_
    refine zg_irem X dL_acts_79 (by decide) ?_
    refine zg_if_ne (tgt := 87) X dL_acts_80 (by decide) (fun c3 => ?_) (fun c3 => ?_)
    · have hf := pl_f c3 hf
      refine zg_iconst (v := 0) X dL_acts_87 (by decide) ?_
      refine zg_loc [] rfl ?_
      exact hB88 hb 0 0 0 v0 (by omega) (by omega) hf
    · have hf := pl_t c3 hf
      refine zg_iconst (v := 1) X dL_acts_83 (by decide) ?_
      refine zg_goto (tgt := 88) X dL_acts_84 (by decide) ?_
      refine zg_loc [] rfl ?_
      exact hB88 hb 0 0 1 v0 (by omega) (by omega) hf
  · have hf := pl_f c2 hf
    by_cases c4 : a1 - a1 / 32 * 32 = 1
    · have hf := pl_t c4 hf
      refine zg_tblI (off := 67) (tgt := 76) X dL_acts_9 (by rw [c4]; decide) (by rw [c4]; decide) (by rw [c4]; rfl) (by decide) ?_
      refine zg_aload_n X dL_acts_76 rfl 1 rfl ?_
      refine zg_iload_n X dL_acts_77 rfl 0 rfl ?_
      refine zg_iconst (v := 2) X dL_acts_78 (by decide) ?_
      refine zg_irem X dL_acts_79 (by decide) ?_
      refine zg_if_ne (tgt := 87) X dL_acts_80 (by decide) (fun c5 => ?_) (fun c5 => ?_)
      · have hf := pl_f c5 hf
        refine zg_iconst (v := 0) X dL_acts_87 (by decide) ?_
        refine zg_loc [] rfl ?_
        exact hB88 hb 0 0 0 v0 (by omega) (by omega) hf
      · have hf := pl_t c5 hf
        refine zg_iconst (v := 1) X dL_acts_83 (by decide) ?_
        refine zg_goto (tgt := 88) X dL_acts_84 (by decide) ?_
        refine zg_loc [] rfl ?_
        exact hB88 hb 0 0 1 v0 (by omega) (by omega) hf
    · have hf := pl_f c4 hf
      by_cases c6 : a1 - a1 / 32 * 32 = 2
      · have hf := pl_t c6 hf
        refine zg_tblI (off := 91) (tgt := 100) X dL_acts_9 (by rw [c6]; decide) (by rw [c6]; decide) (by rw [c6]; rfl) (by decide) ?_
        refine zg_aload_n X dL_acts_100 rfl 1 rfl ?_
        refine zg_iload_n X dL_acts_101 rfl 0 rfl ?_
        refine zg_bipush (v := 120) X dL_acts_102 (by decide) ?_
        refine zg_irem X dL_acts_104 (by decide) ?_
        refine zg_iload_n X dL_acts_105 rfl 0 rfl ?_
        refine zg_sipush (v := 128) X dL_acts_106 (by decide) ?_
        refine zg_idiv X dL_acts_109 (by decide) ?_
        refine zg_bipush (v := 7) X dL_acts_110 (by decide) ?_
        refine zg_irem X dL_acts_112 (by decide) ?_
        refine zg_iconst (v := 1) X dL_acts_113 (by decide) ?_
        refine zg_isub X dL_acts_114 ?_
        obtain ⟨r7, hr7, hf⟩ := pl_b hf
        refine zg_t1 (v' := r7.2) X (zg_runSW X (zc_L_setFault G hst a hb v0 (x1 - x1 / 120 * 120) (((x1 / 128) - (x1 / 128) / 7 * 7) - (1 : Int32)) fu r7 hr7) gL_acts_L_setFault rfl zh_L_setFault ⟨rfl, rfl⟩ ⟨Nat.le_of_ble_eq_true rfl, Nat.le_of_ble_eq_true rfl⟩ rfl (Nat.le_of_ble_eq_true rfl) ⟨(show 0 + 1 ≤ 251 by omega), (show 0 + 6 ≤ 1506 by omega)⟩ zI1 zT_nd zT_ix rfl dL_acts_115) (fun u => ⟨u, rfl⟩) (fun _ => rfl) (fun hb => ?_)
        have hf := Option.some.inj hf
        subst hf
        exact zg_iret X hF rfl rfl hb rfl rfl (by omega) (by omega) dL_acts_118
      · have hf := pl_f c6 hf
        by_cases c8 : a1 - a1 / 32 * 32 = 3
        · have hf := pl_t c8 hf
          refine zg_tblI (off := 91) (tgt := 100) X dL_acts_9 (by rw [c8]; decide) (by rw [c8]; decide) (by rw [c8]; rfl) (by decide) ?_
          refine zg_aload_n X dL_acts_100 rfl 1 rfl ?_
          refine zg_iload_n X dL_acts_101 rfl 0 rfl ?_
          refine zg_bipush (v := 120) X dL_acts_102 (by decide) ?_
          refine zg_irem X dL_acts_104 (by decide) ?_
          refine zg_iload_n X dL_acts_105 rfl 0 rfl ?_
          refine zg_sipush (v := 128) X dL_acts_106 (by decide) ?_
          refine zg_idiv X dL_acts_109 (by decide) ?_
          refine zg_bipush (v := 7) X dL_acts_110 (by decide) ?_
          refine zg_irem X dL_acts_112 (by decide) ?_
          refine zg_iconst (v := 1) X dL_acts_113 (by decide) ?_
          refine zg_isub X dL_acts_114 ?_
          obtain ⟨r9, hr9, hf⟩ := pl_b hf
          refine zg_t1 (v' := r9.2) X (zg_runSW X (zc_L_setFault G hst a hb v0 (x1 - x1 / 120 * 120) (((x1 / 128) - (x1 / 128) / 7 * 7) - (1 : Int32)) fu r9 hr9) gL_acts_L_setFault rfl zh_L_setFault ⟨rfl, rfl⟩ ⟨Nat.le_of_ble_eq_true rfl, Nat.le_of_ble_eq_true rfl⟩ rfl (Nat.le_of_ble_eq_true rfl) ⟨(show 0 + 1 ≤ 251 by omega), (show 0 + 6 ≤ 1506 by omega)⟩ zI1 zT_nd zT_ix rfl dL_acts_115) (fun u => ⟨u, rfl⟩) (fun _ => rfl) (fun hb => ?_)
          have hf := Option.some.inj hf
          subst hf
          exact zg_iret X hF rfl rfl hb rfl rfl (by omega) (by omega) dL_acts_118
        · have hf := pl_f c8 hf
          by_cases c10 : a1 - a1 / 32 * 32 = 4
          · have hf := pl_t c10 hf
            refine zg_tblI (off := 91) (tgt := 100) X dL_acts_9 (by rw [c10]; decide) (by rw [c10]; decide) (by rw [c10]; rfl) (by decide) ?_
            refine zg_aload_n X dL_acts_100 rfl 1 rfl ?_
            refine zg_iload_n X dL_acts_101 rfl 0 rfl ?_
            refine zg_bipush (v := 120) X dL_acts_102 (by decide) ?_
            refine zg_irem X dL_acts_104 (by decide) ?_
            refine zg_iload_n X dL_acts_105 rfl 0 rfl ?_
            refine zg_sipush (v := 128) X dL_acts_106 (by decide) ?_
            refine zg_idiv X dL_acts_109 (by decide) ?_
            refine zg_bipush (v := 7) X dL_acts_110 (by decide) ?_
            refine zg_irem X dL_acts_112 (by decide) ?_
            refine zg_iconst (v := 1) X dL_acts_113 (by decide) ?_
            refine zg_isub X dL_acts_114 ?_
            obtain ⟨r11, hr11, hf⟩ := pl_b hf
            refine zg_t1 (v' := r11.2) X (zg_runSW X (zc_L_setFault G hst a hb v0 (x1 - x1 / 120 * 120) (((x1 / 128) - (x1 / 128) / 7 * 7) - (1 : Int32)) fu r11 hr11) gL_acts_L_setFault rfl zh_L_setFault ⟨rfl, rfl⟩ ⟨Nat.le_of_ble_eq_true rfl, Nat.le_of_ble_eq_true rfl⟩ rfl (Nat.le_of_ble_eq_true rfl) ⟨(show 0 + 1 ≤ 251 by omega), (show 0 + 6 ≤ 1506 by omega)⟩ zI1 zT_nd zT_ix rfl dL_acts_115) (fun u => ⟨u, rfl⟩) (fun _ => rfl) (fun hb => ?_)
            have hf := Option.some.inj hf
            subst hf
            exact zg_iret X hF rfl rfl hb rfl rfl (by omega) (by omega) dL_acts_118
          · have hf := pl_f c10 hf
            by_cases c12 : a1 - a1 / 32 * 32 = 5
            · have hf := pl_t c12 hf
              refine zg_tblI (off := 91) (tgt := 100) X dL_acts_9 (by rw [c12]; decide) (by rw [c12]; decide) (by rw [c12]; rfl) (by decide) ?_
              refine zg_aload_n X dL_acts_100 rfl 1 rfl ?_
              refine zg_iload_n X dL_acts_101 rfl 0 rfl ?_
              refine zg_bipush (v := 120) X dL_acts_102 (by decide) ?_
              refine zg_irem X dL_acts_104 (by decide) ?_
              refine zg_iload_n X dL_acts_105 rfl 0 rfl ?_
              refine zg_sipush (v := 128) X dL_acts_106 (by decide) ?_
              refine zg_idiv X dL_acts_109 (by decide) ?_
              refine zg_bipush (v := 7) X dL_acts_110 (by decide) ?_
              refine zg_irem X dL_acts_112 (by decide) ?_
              refine zg_iconst (v := 1) X dL_acts_113 (by decide) ?_
              refine zg_isub X dL_acts_114 ?_
              obtain ⟨r13, hr13, hf⟩ := pl_b hf
              refine zg_t1 (v' := r13.2) X (zg_runSW X (zc_L_setFault G hst a hb v0 (x1 - x1 / 120 * 120) (((x1 / 128) - (x1 / 128) / 7 * 7) - (1 : Int32)) fu r13 hr13) gL_acts_L_setFault rfl zh_L_setFault ⟨rfl, rfl⟩ ⟨Nat.le_of_ble_eq_true rfl, Nat.le_of_ble_eq_true rfl⟩ rfl (Nat.le_of_ble_eq_true rfl) ⟨(show 0 + 1 ≤ 251 by omega), (show 0 + 6 ≤ 1506 by omega)⟩ zI1 zT_nd zT_ix rfl dL_acts_115) (fun u => ⟨u, rfl⟩) (fun _ => rfl) (fun hb => ?_)
              have hf := Option.some.inj hf
              subst hf
              exact zg_iret X hF rfl rfl hb rfl rfl (by omega) (by omega) dL_acts_118
            · have hf := pl_f c12 hf
              by_cases c14 : a1 - a1 / 32 * 32 = 6
              · have hf := pl_t c14 hf
                refine zg_tblI (off := 110) (tgt := 119) X dL_acts_9 (by rw [c14]; decide) (by rw [c14]; decide) (by rw [c14]; rfl) (by decide) ?_
                refine zg_aload_n X dL_acts_119 rfl 1 rfl ?_
                obtain ⟨r15, hr15, hf⟩ := pl_b hf
                refine zg_t10 (v' := r15.2) X (zg_runV X (zt_X7_clearBuffer G a hb v0 fu r15 hr15) gL_acts_X7_clearBuffer rfl zh_X7_clearBuffer ⟨rfl, rfl⟩ ⟨Nat.le_of_ble_eq_true rfl, Nat.le_of_ble_eq_true rfl⟩ rfl rfl rfl (Nat.le_of_ble_eq_true rfl) ⟨(show 0 + 0 ≤ 251 by omega), (show 0 + 0 ≤ 1506 by omega)⟩ zI1 zT_nd zT_ix rfl dL_acts_120) ⟨_, rfl⟩ (fun hb => ?_)
                refine zg_istore_n (L' := [(3, .int r15.1), (2, .int x1), (0, .ref (a 0)), (1, .int a1)]) X dL_acts_123 rfl (by decide) rfl ?_
                refine zg_iconst (v := 0) X dL_acts_124 (by decide) ?_
                refine zg_istore (L' := [(4, .int 0), (3, .int r15.1), (2, .int x1), (0, .ref (a 0)), (1, .int a1)]) X dL_acts_125 (by decide) rfl ?_
                refine zg_loc [3, 2, 1, 0] rfl ?_
                exact hL127 fn hb 0 0 x1 r15.1 0 r15.2 (by omega) (by omega) hf
              · have hf := pl_f c14 hf
                by_cases c16 : a1 - a1 / 32 * 32 = 7
                · have hf := pl_t c16 hf
                  refine zg_tblI (off := 110) (tgt := 119) X dL_acts_9 (by rw [c16]; decide) (by rw [c16]; decide) (by rw [c16]; rfl) (by decide) ?_
                  refine zg_aload_n X dL_acts_119 rfl 1 rfl ?_
                  obtain ⟨r17, hr17, hf⟩ := pl_b hf
                  refine zg_t10 (v' := r17.2) X (zg_runV X (zt_X7_clearBuffer G a hb v0 fu r17 hr17) gL_acts_X7_clearBuffer rfl zh_X7_clearBuffer ⟨rfl, rfl⟩ ⟨Nat.le_of_ble_eq_true rfl, Nat.le_of_ble_eq_true rfl⟩ rfl rfl rfl (Nat.le_of_ble_eq_true rfl) ⟨(show 0 + 0 ≤ 251 by omega), (show 0 + 0 ≤ 1506 by omega)⟩ zI1 zT_nd zT_ix rfl dL_acts_120) ⟨_, rfl⟩ (fun hb => ?_)
                  refine zg_istore_n (L' := [(3, .int r17.1), (2, .int x1), (0, .ref (a 0)), (1, .int a1)]) X dL_acts_123 rfl (by decide) rfl ?_
                  refine zg_iconst (v := 0) X dL_acts_124 (by decide) ?_
                  refine zg_istore (L' := [(4, .int 0), (3, .int r17.1), (2, .int x1), (0, .ref (a 0)), (1, .int a1)]) X dL_acts_125 (by decide) rfl ?_
                  refine zg_loc [3, 2, 1, 0] rfl ?_
                  exact hL127 fn hb 0 0 x1 r17.1 0 r17.2 (by omega) (by omega) hf
                · have hf := pl_f c16 hf
                  by_cases c18 : a1 - a1 / 32 * 32 = 8
                  · have hf := pl_t c18 hf
                    refine zg_tblI (off := 110) (tgt := 119) X dL_acts_9 (by rw [c18]; decide) (by rw [c18]; decide) (by rw [c18]; rfl) (by decide) ?_
                    refine zg_aload_n X dL_acts_119 rfl 1 rfl ?_
                    obtain ⟨r19, hr19, hf⟩ := pl_b hf
                    refine zg_t10 (v' := r19.2) X (zg_runV X (zt_X7_clearBuffer G a hb v0 fu r19 hr19) gL_acts_X7_clearBuffer rfl zh_X7_clearBuffer ⟨rfl, rfl⟩ ⟨Nat.le_of_ble_eq_true rfl, Nat.le_of_ble_eq_true rfl⟩ rfl rfl rfl (Nat.le_of_ble_eq_true rfl) ⟨(show 0 + 0 ≤ 251 by omega), (show 0 + 0 ≤ 1506 by omega)⟩ zI1 zT_nd zT_ix rfl dL_acts_120) ⟨_, rfl⟩ (fun hb => ?_)
                    refine zg_istore_n (L' := [(3, .int r19.1), (2, .int x1), (0, .ref (a 0)), (1, .int a1)]) X dL_acts_123 rfl (by decide) rfl ?_
                    refine zg_iconst (v := 0) X dL_acts_124 (by decide) ?_
                    refine zg_istore (L' := [(4, .int 0), (3, .int r19.1), (2, .int x1), (0, .ref (a 0)), (1, .int a1)]) X dL_acts_125 (by decide) rfl ?_
                    refine zg_loc [3, 2, 1, 0] rfl ?_
                    exact hL127 fn hb 0 0 x1 r19.1 0 r19.2 (by omega) (by omega) hf
                  · have hf := pl_f c18 hf
                    by_cases c20 : a1 - a1 / 32 * 32 = 9
                    · have hf := pl_t c20 hf
                      refine zg_tblI (off := 110) (tgt := 119) X dL_acts_9 (by rw [c20]; decide) (by rw [c20]; decide) (by rw [c20]; rfl) (by decide) ?_
                      refine zg_aload_n X dL_acts_119 rfl 1 rfl ?_
                      obtain ⟨r21, hr21, hf⟩ := pl_b hf
                      refine zg_t10 (v' := r21.2) X (zg_runV X (zt_X7_clearBuffer G a hb v0 fu r21 hr21) gL_acts_X7_clearBuffer rfl zh_X7_clearBuffer ⟨rfl, rfl⟩ ⟨Nat.le_of_ble_eq_true rfl, Nat.le_of_ble_eq_true rfl⟩ rfl rfl rfl (Nat.le_of_ble_eq_true rfl) ⟨(show 0 + 0 ≤ 251 by omega), (show 0 + 0 ≤ 1506 by omega)⟩ zI1 zT_nd zT_ix rfl dL_acts_120) ⟨_, rfl⟩ (fun hb => ?_)
                      refine zg_istore_n (L' := [(3, .int r21.1), (2, .int x1), (0, .ref (a 0)), (1, .int a1)]) X dL_acts_123 rfl (by decide) rfl ?_
                      refine zg_iconst (v := 0) X dL_acts_124 (by decide) ?_
                      refine zg_istore (L' := [(4, .int 0), (3, .int r21.1), (2, .int x1), (0, .ref (a 0)), (1, .int a1)]) X dL_acts_125 (by decide) rfl ?_
                      refine zg_loc [3, 2, 1, 0] rfl ?_
                      exact hL127 fn hb 0 0 x1 r21.1 0 r21.2 (by omega) (by omega) hf
                    · have hf := pl_f c20 hf
                      by_cases c22 : a1 - a1 / 32 * 32 = 10
                      · have hf := pl_t c22 hf
                        refine zg_tblI (off := 166) (tgt := 175) X dL_acts_9 (by rw [c22]; decide) (by rw [c22]; decide) (by rw [c22]; rfl) (by decide) ?_
                        refine zg_aload_n X dL_acts_175 rfl 1 rfl ?_
                        refine zg_iload_n X dL_acts_176 rfl 0 rfl ?_
                        refine zg_bipush (v := 8) X dL_acts_177 (by decide) ?_
                        refine zg_irem X dL_acts_179 (by decide) ?_
                        obtain ⟨r23, hr23, hf⟩ := pl_b hf
                        refine zg_t1 (v' := r23.2) X (zg_runSW X (zc_L_forget G hst a hb v0 (x1 - x1 / 8 * 8) fu r23 hr23) gL_acts_L_forget rfl zh_L_forget ⟨rfl, rfl⟩ ⟨Nat.le_of_ble_eq_true rfl, Nat.le_of_ble_eq_true rfl⟩ rfl (Nat.le_of_ble_eq_true rfl) ⟨(show 0 + 1 ≤ 251 by omega), (show 0 + 6 ≤ 1506 by omega)⟩ zI1 zT_nd zT_ix rfl dL_acts_180) (fun u => ⟨u, rfl⟩) (fun _ => rfl) (fun hb => ?_)
                        have hf := Option.some.inj hf
                        subst hf
                        exact zg_iret X hF rfl rfl hb rfl rfl (by omega) (by omega) dL_acts_183
                      · have hf := pl_f c22 hf
                        by_cases c24 : a1 - a1 / 32 * 32 = 11
                        · have hf := pl_t c24 hf
                          refine zg_tblI (off := 175) (tgt := 184) X dL_acts_9 (by rw [c24]; decide) (by rw [c24]; decide) (by rw [c24]; rfl) (by decide) ?_
                          refine zg_aload_n X dL_acts_184 rfl 1 rfl ?_
                          obtain ⟨r25, hr25, hf⟩ := pl_b hf
                          refine zg_t1 (v' := r25.2) X (zg_runSW X (zc_L_undo G hst a hb v0 fu r25 hr25) gL_acts_L_undo rfl zh_L_undo ⟨rfl, rfl⟩ ⟨Nat.le_of_ble_eq_true rfl, Nat.le_of_ble_eq_true rfl⟩ rfl (Nat.le_of_ble_eq_true rfl) ⟨(show 0 + 1 ≤ 251 by omega), (show 0 + 6 ≤ 1506 by omega)⟩ zI1 zT_nd zT_ix rfl dL_acts_185) (fun u => ⟨u, rfl⟩) (fun _ => rfl) (fun hb => ?_)
                          have hf := Option.some.inj hf
                          subst hf
                          exact zg_iret X hF rfl rfl hb rfl rfl (by omega) (by omega) dL_acts_188
                        · have hf := pl_f c24 hf
                          by_cases c26 : a1 - a1 / 32 * 32 = 12
                          · have hf := pl_t c26 hf
                            refine zg_tblI (off := 175) (tgt := 184) X dL_acts_9 (by rw [c26]; decide) (by rw [c26]; decide) (by rw [c26]; rfl) (by decide) ?_
                            refine zg_aload_n X dL_acts_184 rfl 1 rfl ?_
                            obtain ⟨r27, hr27, hf⟩ := pl_b hf
                            refine zg_t1 (v' := r27.2) X (zg_runSW X (zc_L_undo G hst a hb v0 fu r27 hr27) gL_acts_L_undo rfl zh_L_undo ⟨rfl, rfl⟩ ⟨Nat.le_of_ble_eq_true rfl, Nat.le_of_ble_eq_true rfl⟩ rfl (Nat.le_of_ble_eq_true rfl) ⟨(show 0 + 1 ≤ 251 by omega), (show 0 + 6 ≤ 1506 by omega)⟩ zI1 zT_nd zT_ix rfl dL_acts_185) (fun u => ⟨u, rfl⟩) (fun _ => rfl) (fun hb => ?_)
                            have hf := Option.some.inj hf
                            subst hf
                            exact zg_iret X hF rfl rfl hb rfl rfl (by omega) (by omega) dL_acts_188
                          · have hf := pl_f c26 hf
                            refine zg_tblO (tgt := 189) X dL_acts_9 ?_ (by decide) ?_
                            · have t := pl_sw (x := a1 - a1 / 32 * 32) 0 13 (fun k hk => by
                                match k, hk with
                                | 0, _ => exact fun e => pl_ne c2 (i := 0) (by decide) (by omega)
                                | 1, _ => exact fun e => pl_ne c4 (i := 1) (by decide) (by omega)
                                | 2, _ => exact fun e => pl_ne c6 (i := 2) (by decide) (by omega)
                                | 3, _ => exact fun e => pl_ne c8 (i := 3) (by decide) (by omega)
                                | 4, _ => exact fun e => pl_ne c10 (i := 4) (by decide) (by omega)
                                | 5, _ => exact fun e => pl_ne c12 (i := 5) (by decide) (by omega)
                                | 6, _ => exact fun e => pl_ne c14 (i := 6) (by decide) (by omega)
                                | 7, _ => exact fun e => pl_ne c16 (i := 7) (by decide) (by omega)
                                | 8, _ => exact fun e => pl_ne c18 (i := 8) (by decide) (by omega)
                                | 9, _ => exact fun e => pl_ne c20 (i := 9) (by decide) (by omega)
                                | 10, _ => exact fun e => pl_ne c22 (i := 10) (by decide) (by omega)
                                | 11, _ => exact fun e => pl_ne c24 (i := 11) (by decide) (by omega)
                                | 12, _ => exact fun e => pl_ne c26 (i := 12) (by decide) (by omega)
                                | k + 13, h => exact absurd h (by omega))
                              omega
                            · skip
                              refine zg_aload_n X dL_acts_189 rfl 1 rfl ?_
                              obtain ⟨r28, hr28, hf⟩ := pl_b hf
                              refine zg_t10 (v' := r28.2) X (zg_runV X (zt_X7_clearBuffer G a hb v0 fu r28 hr28) gL_acts_X7_clearBuffer rfl zh_X7_clearBuffer ⟨rfl, rfl⟩ ⟨Nat.le_of_ble_eq_true rfl, Nat.le_of_ble_eq_true rfl⟩ rfl rfl rfl (Nat.le_of_ble_eq_true rfl) ⟨(show 0 + 0 ≤ 251 by omega), (show 0 + 0 ≤ 1506 by omega)⟩ zI1 zT_nd zT_ix rfl dL_acts_190) ⟨_, rfl⟩ (fun hb => ?_)
                              refine zg_istore (L' := [(4, .int r28.1), (2, .int x1), (0, .ref (a 0)), (1, .int a1)]) X dL_acts_193 (by decide) rfl ?_
                              refine zg_iconst (v := 0) X dL_acts_195 (by decide) ?_
                              refine zg_istore (L' := [(5, .int 0), (4, .int r28.1), (2, .int x1), (0, .ref (a 0)), (1, .int a1)]) X dL_acts_196 (by decide) rfl ?_
                              refine zg_loc [3, 2, 1, 0] rfl ?_
                              exact hL198 fn hb 0 0 x1 r28.1 0 r28.2 (by omega) (by omega) hf
