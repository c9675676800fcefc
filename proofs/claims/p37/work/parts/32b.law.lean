def zf_L_law_b175 (fu : Nat) (fn : Nat) (fl : Nat) (xs : Nat → Int32) (Ls : Nat) (rec65 : Int32 → Int32 → zTR → zTR → Option Int32) (y4 : Int32) (z0 : Int32) (v : zTR) (w : zTR) : Option Int32 := zlet (y4 + 1) fun x47 => rec65 z0 x47 v w
def zf_L_law_b170 (fu : Nat) (fn : Nat) (fl : Nat) (xs : Nat → Int32) (Ls : Nat) (rec65 : Int32 → Int32 → zTR → zTR → Option Int32) (y4 : Int32) (v : zTR) (w : zTR) : Option Int32 := zf_L_law_b175 fu fn fl xs Ls rec65 y4 1 v w
def zf_L_law_b174 (fu : Nat) (fn : Nat) (fl : Nat) (xs : Nat → Int32) (Ls : Nat) (rec65 : Int32 → Int32 → zTR → zTR → Option Int32) (y4 : Int32) (v : zTR) (w : zTR) : Option Int32 := zf_L_law_b175 fu fn fl xs Ls rec65 y4 0 v w
def zf_L_law_b111 (fu : Nat) (fn : Nat) (fl : Nat) (xs : Nat → Int32) (Ls : Nat) (rec65 : Int32 → Int32 → zTR → zTR → Option Int32) (y4 : Int32) (y5 : Int32) (y6 : Int32) (v : zTR) (w : zTR) : Option Int32 := (zf_L_acts fu fn w y5).bind fun r26 => if r26.1 = y6 then ((zf_X7_savedStates fu v).bind fun r28 => (zf_X7_savedStates fu r26.2).bind fun r29 => if r28 = r29 then ((zf_X7_digest fu v).bind fun r31 => (zf_X7_digest fu r26.2).bind fun r32 => if (lg_cmp r31 r32) = 0 then (if 0 < (y4 - y4 / 3 * 3) then (zf_L_law_b170 fu fn fl xs Ls rec65 y4 v r26.2) else (if (y4 - y4 / 2 * 2) = 0 then ((zf_L_hangs fu fn v).bind fun r38 => if r38 = 0 then (zf_L_law_b174 fu fn fl xs Ls rec65 y4 v r26.2) else (zf_L_law_b170 fu fn fl xs Ls rec65 y4 v r26.2)) else ((zf_L_hangs fu fn r26.2).bind fun r36 => if r36 = 0 then (zf_L_law_b174 fu fn fl xs Ls rec65 y4 v r26.2) else (zf_L_law_b170 fu fn fl xs Ls rec65 y4 v r26.2)))) else (zf_L_law_b174 fu fn fl xs Ls rec65 y4 v r26.2)) else (zf_L_law_b174 fu fn fl xs Ls rec65 y4 v r26.2)) else (zf_L_law_b174 fu fn fl xs Ls rec65 y4 v r26.2)
def zf_L_law_b268 (fu : Nat) (fn : Nat) (fl : Nat) (xs : Nat → Int32) (Ls : Nat) (y4 : Int64) (z0 : Int32) (v : zTR) (w : zTR) : Option Int32 := if z0 = 0 then (some 0) else ((zf_X7_clearBuffer fu v).bind fun r49 => if r49.1 < 0 then (some 0) else ((zf_L_append fu r49.2 97).bind fun r51 => if r51.1 = 1 then ((zf_X7_digest fu r51.2).bind fun r53 => if (lg_cmp r53 y4) = 0 then ((zf_X7_clearBuffer fu r51.2).bind fun r55 => if r55.1 = 1 then (some 1) else (some 0)) else (some 0)) else (some 0)))
def zf_L_law_b267 (fu : Nat) (fn : Nat) (fl : Nat) (xs : Nat → Int32) (Ls : Nat) (y4 : Int64) (v : zTR) (w : zTR) : Option Int32 := zf_L_law_b268 fu fn fl xs Ls y4 0 v w
def zf_L_law_b229 (fu : Nat) (fn : Nat) (fl : Nat) (xs : Nat → Int32) (Ls : Nat) (y4 : Int64) (y7 : Int32) (z0 : Int32) (z1 : Int32) (v : zTR) (w : zTR) : Option Int32 := if z0 = z1 then ((zf_X7_digest fu v).bind fun r41 => if (lg_cmp r41 y4) = 0 then ((zf_X7_unshiftOnSpace fu w y7).bind fun r43 => if r43.1 = y7 then ((zf_X7_digest fu r43.2).bind fun r45 => if (lg_cmp r45 y4) = 0 then (zf_L_law_b268 fu fn fl xs Ls y4 1 v r43.2) else (zf_L_law_b267 fu fn fl xs Ls y4 v r43.2)) else (zf_L_law_b267 fu fn fl xs Ls y4 v r43.2)) else (zf_L_law_b267 fu fn fl xs Ls y4 v w)) else (zf_L_law_b267 fu fn fl xs Ls y4 v w)
def zf_L_law_b182 (fu : Nat) (fn : Nat) (fl : Nat) (xs : Nat → Int32) (Ls : Nat) (y3 : Int32) (v : zTR) (w : zTR) : Option Int32 := (zf_X7_digest fu v).bind fun r18 => (zf_X7_savedStates fu v).bind fun r19 => (zf_X7_unshiftOnSpace fu v 1).bind fun r20 => if y3 = 0 then (zf_L_law_b267 fu fn fl xs Ls r18 r20.2 w) else ((zf_L_hangs fu fn r20.2).bind fun r22 => if r22 = 0 then (zf_L_law_b267 fu fn fl xs Ls r18 r20.2 w) else ((zf_L_undo fu r20.2).bind fun r24 => if r19 = 6 then (zf_L_law_b229 fu fn fl xs Ls r18 r20.1 r24.1 5 r24.2 w) else (zf_L_law_b229 fu fn fl xs Ls r18 r20.1 r24.1 r19 r24.2 w)))
def zf_L_law_L65 (fu : Nat) (fn : Nat) (fl : Nat) (xs : Nat → Int32) (Ls : Nat) : Nat → Int32 → Int32 → zTR → zTR → Option Int32
  | 0, _, _, _, _ => none
  | n + 1, y3, y4, v, w => if 30 ≤ y4 then (zf_L_law_b182 fu fn fl xs Ls y3 v w) else (if y3 = 0 then (zf_L_law_b182 fu fn fl xs Ls y3 v w) else ((zf_L_cell xs Ls y4).bind fun r13 => (zf_L_acts fu fn v r13).bind fun r14 => if 0 < (y4 - y4 / 3 * 3) then (zf_L_law_b111 fu fn fl xs Ls (zf_L_law_L65 fu fn fl xs Ls n) y4 r13 r14.1 r14.2 w) else ((zf_L_refuses fu fn w (r13 - r13 / 100000 * 100000)).bind fun r16 => if r16.1 = 0 then (zf_L_law_b174 fu fn fl xs Ls (zf_L_law_L65 fu fn fl xs Ls n) y4 r14.2 r16.2) else (zf_L_law_b111 fu fn fl xs Ls (zf_L_law_L65 fu fn fl xs Ls n) y4 r13 r14.1 r14.2 r16.2))))
def zf_L_law_b61 (fu : Nat) (fn : Nat) (fl : Nat) (xs : Nat → Int32) (Ls : Nat) (z0 : Int32) (v : zTR) (w : zTR) : Option Int32 := zf_L_law_L65 fu fn fl xs Ls fl z0 0 v w
def zf_L_law_b60 (fu : Nat) (fn : Nat) (fl : Nat) (xs : Nat → Int32) (Ls : Nat) (v : zTR) (w : zTR) : Option Int32 := zf_L_law_b61 fu fn fl xs Ls 0 v w
def zf_L_law_b16 (fu : Nat) (fn : Nat) (fl : Nat) (xs : Nat → Int32) (Ls : Nat) (v : zTR) (w : zTR) : Option Int32 := (zf_L_undo fu v).bind fun r1 => if r1.1 = (-2) then ((zf_X7_codesToSend fu r1.2).bind fun r3 => if r3.1 = 0 then ((zf_X7_plausibility fu r3.2).bind fun r5 => if (Op.cmpValue (FP.dcmp r5 FP.dconst1) .l) = 0 then ((zf_X7_bestRepair fu r3.2).bind fun r7 => if r7 = (-1) then ((zf_L_hangs fu fn r3.2).bind fun r9 => if r9 = 0 then (zf_L_law_b60 fu fn fl xs Ls r3.2 w) else (zf_L_law_b61 fu fn fl xs Ls 1 r3.2 w)) else (zf_L_law_b60 fu fn fl xs Ls r3.2 w)) else (zf_L_law_b60 fu fn fl xs Ls r3.2 w)) else (zf_L_law_b60 fu fn fl xs Ls r3.2 w)) else (zf_L_law_b60 fu fn fl xs Ls r1.2 w)
set_option maxHeartbeats 40000000 in
set_option maxRecDepth 100000 in
theorem zc_law (G : zgG) (hst : G.1.stackTraces = false) (fu fn fl : Nat) (hfn : fn ≤ 250) (hfl : fl ≤ 31) (xs : Nat → Int32) (Ls : Nat) (a b : Nat → Nat) (sb : Nat) (Z : zgZ) (X : zgCx G Z cL_law RL (some .boolean) 8 wsL_law) (hX : va_X sb Ls xs (zZs Z) (zZs Z).heap) (hbl : sb < (zZs Z).heap.size) (hbA : ¬ zZA Z sb)
    (hend : ∀ (k n pc : Nat) (ws : va_W) (L : List (Nat × Value)), k ≤ 600000 → n ≤ 7300000 → decode cL_law pc = .ok (.ireturn, 1) → zgGd G Z room_1 k n 8 ws pc L [.int 1]) :
    ∀ (hb : Nat → Nat) (hc : Nat → Nat) (kc ks : Nat) (v : zTR) (w : zTR), kc + (65852) ≤ 600000 → ks + 6 * (65852) ≤ 7300000 → zf_L_law_b16 fu fn fl xs Ls v w = some 1 → zgGd G Z room_1 kc ks 8 ((zTc G a hb v) ++ (zTc G b hc w)) 16 [(0, .ref sb), (1, .ref (a 0)), (2, .ref (b 0))] [] := by
  have hw0 : Cond.constant RL 172 (100000) ∈ wsL_law := by decide +kernel
  have hB268 : ∀ (hb : Nat → Nat) (hc : Nat → Nat) (kc ks : Nat) (y4 : Int64) (z0 : Int32) (v : zTR) (w : zTR), kc + (1) ≤ 600000 → ks + 6 * (1) ≤ 7300000 → zf_L_law_b268 fu fn fl xs Ls y4 z0 v w = some 1 → zgGd G Z room_1 kc ks 8 ((zTc G a hb v) ++ (zTc G b hc w)) 268 [(1, .ref (a 0)), (4, .long y4)] [.int z0] := by
    intro hb hc kc ks y4 z0 v w hkc hks hf
    unfold zf_L_law_b268 at hf
    refine zg_istore_n (L' := [(3, .int z0), (1, .ref (a 0)), (4, .long y4)]) X dL_law_268 rfl (by decide) rfl ?_
    refine zg_iload_n X dL_law_269 rfl 0 rfl ?_
    refine zg_if_eq (tgt := 312) X dL_law_270 (by decide) (fun c48 => ?_) (fun c48 => ?_)
    · have hf := pl_t c48 hf
      refine zg_iconst (v := 0) X dL_law_312 (by decide) ?_
      exact absurd (Option.some.inj hf) (by decide)
    · have hf := pl_f c48 hf
      refine zg_aload_n X dL_law_273 rfl 1 rfl ?_
      obtain ⟨r49, hr49, hf⟩ := pl_b hf
      refine zg_o10 (v' := r49.2) X (zg_runV X (zt_X7_clearBuffer G a hb v fu r49 hr49) gL_law_X7_clearBuffer rfl zh_X7_clearBuffer ⟨rfl, rfl⟩ ⟨Nat.le_of_ble_eq_true rfl, Nat.le_of_ble_eq_true rfl⟩ rfl rfl rfl (Nat.le_of_ble_eq_true rfl) ⟨(show kc + 0 ≤ 600172 by omega), (show ks + 0 ≤ 7300668 by omega)⟩ zI1 zT_nd zT_ixo rfl dL_law_274) ⟨_, rfl⟩ (fun hb => ?_)
      refine zg_if_lt (tgt := 312) X dL_law_277 (by decide) (fun c50 => ?_) (fun c50 => ?_)
      · have hf := pl_t c50 hf
        refine zg_iconst (v := 0) X dL_law_312 (by decide) ?_
        exact absurd (Option.some.inj hf) (by decide)
      · have hf := pl_f c50 hf
        refine zg_aload_n X dL_law_280 rfl 1 rfl ?_
        refine zg_bipush (v := 97) X dL_law_281 (by decide) ?_
        obtain ⟨r51, hr51, hf⟩ := pl_b hf
        refine zg_o1 (v' := r51.2) X (zg_runSW X (zc_L_append G hst a hb r49.2 97 fu r51 hr51) gL_law_L_append rfl zh_L_append ⟨rfl, rfl⟩ ⟨Nat.le_of_ble_eq_true rfl, Nat.le_of_ble_eq_true rfl⟩ rfl (Nat.le_of_ble_eq_true rfl) ⟨(show kc + 1 ≤ 600172 by omega), (show ks + 6 ≤ 7300668 by omega)⟩ zI1 zT_nd zT_ixo rfl dL_law_283) (fun u => ⟨u, rfl⟩) (fun _ => rfl) (fun hb => ?_)
        refine zg_iconst (v := 1) X dL_law_286 (by decide) ?_
        refine zg_icmp_ne (tgt := 312) X dL_law_287 (by decide) (fun c52 => ?_) (fun c52 => ?_)
        · have hf := pl_f c52 hf
          refine zg_iconst (v := 0) X dL_law_312 (by decide) ?_
          exact absurd (Option.some.inj hf) (by decide)
        · have hf := pl_t c52 hf
          refine zg_aload_n X dL_law_290 rfl 1 rfl ?_
          obtain ⟨r53, hr53, hf⟩ := pl_b hf
          refine zg_o10 (v' := r51.2) X (zg_runV X (zt_X7_digest G a hb r51.2 fu r53 hr53) gL_law_X7_digest rfl zh_X7_digest ⟨rfl, rfl⟩ ⟨Nat.le_of_ble_eq_true rfl, Nat.le_of_ble_eq_true rfl⟩ rfl rfl rfl (Nat.le_of_ble_eq_true rfl) ⟨(show (kc + 1) + 0 ≤ 600172 by omega), (show (ks + 6) + 0 ≤ 7300668 by omega)⟩ zI1 zT_nd zT_ixo rfl dL_law_291) ⟨_, rfl⟩ (fun hb => ?_)
          refine zg_lload X dL_law_294 2 rfl ?_
          refine zg_lcmp X dL_law_296 ?_
          refine zg_if_ne (tgt := 312) X dL_law_297 (by decide) (fun c54 => ?_) (fun c54 => ?_)
          · have hf := pl_f c54 hf
            refine zg_iconst (v := 0) X dL_law_312 (by decide) ?_
            exact absurd (Option.some.inj hf) (by decide)
          · have hf := pl_t c54 hf
            refine zg_aload_n X dL_law_300 rfl 1 rfl ?_
            obtain ⟨r55, hr55, hf⟩ := pl_b hf
            refine zg_o10 (v' := r55.2) X (zg_runV X (zt_X7_clearBuffer G a hb r51.2 fu r55 hr55) gL_law_X7_clearBuffer rfl zh_X7_clearBuffer ⟨rfl, rfl⟩ ⟨Nat.le_of_ble_eq_true rfl, Nat.le_of_ble_eq_true rfl⟩ rfl rfl rfl (Nat.le_of_ble_eq_true rfl) ⟨(show (kc + 1) + 0 ≤ 600172 by omega), (show (ks + 6) + 0 ≤ 7300668 by omega)⟩ zI1 zT_nd zT_ixo rfl dL_law_301) ⟨_, rfl⟩ (fun hb => ?_)
            refine zg_iconst (v := 1) X dL_law_304 (by decide) ?_
            refine zg_icmp_ne (tgt := 312) X dL_law_305 (by decide) (fun c56 => ?_) (fun c56 => ?_)
            · have hf := pl_f c56 hf
              refine zg_iconst (v := 0) X dL_law_312 (by decide) ?_
              exact absurd (Option.some.inj hf) (by decide)
            · have hf := pl_t c56 hf
              refine zg_iconst (v := 1) X dL_law_308 (by decide) ?_
              refine zg_goto (tgt := 313) X dL_law_309 (by decide) ?_
              exact hend (kc + 1) (ks + 6) _ _ _ (by omega) (by omega) dL_law_313
  have hB267 : ∀ (hb : Nat → Nat) (hc : Nat → Nat) (kc ks : Nat) (y4 : Int64) (v : zTR) (w : zTR), kc + (1) ≤ 600000 → ks + 6 * (1) ≤ 7300000 → zf_L_law_b267 fu fn fl xs Ls y4 v w = some 1 → zgGd G Z room_1 kc ks 8 ((zTc G a hb v) ++ (zTc G b hc w)) 267 [(1, .ref (a 0)), (4, .long y4)] [] := by
    intro hb hc kc ks y4 v w hkc hks hf
    unfold zf_L_law_b267 at hf
    refine zg_iconst (v := 0) X dL_law_267 (by decide) ?_
    exact hB268 hb hc kc ks y4 0 v w (by omega) (by omega) hf
  have hB229 : ∀ (hb : Nat → Nat) (hc : Nat → Nat) (kc ks : Nat) (y4 : Int64) (y7 : Int32) (z0 : Int32) (z1 : Int32) (v : zTR) (w : zTR), kc + (1) ≤ 600000 → ks + 6 * (1) ≤ 7300000 → zf_L_law_b229 fu fn fl xs Ls y4 y7 z0 z1 v w = some 1 → zgGd G Z room_1 kc ks 8 ((zTc G a hb v) ++ (zTc G b hc w)) 229 [(1, .ref (a 0)), (2, .ref (b 0)), (4, .long y4), (7, .int y7)] [.int z1, .int z0] := by
    intro hb hc kc ks y4 y7 z0 z1 v w hkc hks hf
    unfold zf_L_law_b229 at hf
    refine zg_icmp_ne (tgt := 267) X dL_law_229 (by decide) (fun c40 => ?_) (fun c40 => ?_)
    · have hf := pl_f c40 hf
      refine zg_loc [0, 2] rfl ?_
      exact hB267 hb hc kc ks y4 v w (by omega) (by omega) hf
    · have hf := pl_t c40 hf
      refine zg_aload_n X dL_law_232 rfl 0 rfl ?_
      obtain ⟨r41, hr41, hf⟩ := pl_b hf
      refine zg_o10 (v' := v) X (zg_runV X (zt_X7_digest G a hb v fu r41 hr41) gL_law_X7_digest rfl zh_X7_digest ⟨rfl, rfl⟩ ⟨Nat.le_of_ble_eq_true rfl, Nat.le_of_ble_eq_true rfl⟩ rfl rfl rfl (Nat.le_of_ble_eq_true rfl) ⟨(show kc + 0 ≤ 600172 by omega), (show ks + 0 ≤ 7300668 by omega)⟩ zI1 zT_nd zT_ixo rfl dL_law_233) ⟨_, rfl⟩ (fun hb => ?_)
      refine zg_lload X dL_law_236 2 rfl ?_
      refine zg_lcmp X dL_law_238 ?_
      refine zg_if_ne (tgt := 267) X dL_law_239 (by decide) (fun c42 => ?_) (fun c42 => ?_)
      · have hf := pl_f c42 hf
        refine zg_loc [0, 2] rfl ?_
        exact hB267 hb hc kc ks y4 v w (by omega) (by omega) hf
      · have hf := pl_t c42 hf
        refine zg_aload_n X dL_law_242 rfl 1 rfl ?_
        refine zg_iload X dL_law_243 3 rfl ?_
        obtain ⟨r43, hr43, hf⟩ := pl_b hf
        refine zg_q10 (w' := r43.2) X (zg_runV X (zt_X7_unshiftOnSpace G b hc w y7 fu r43 hr43) gL_law_X7_unshiftOnSpace rfl zh_X7_unshiftOnSpace ⟨rfl, rfl⟩ ⟨Nat.le_of_ble_eq_true rfl, Nat.le_of_ble_eq_true rfl⟩ rfl rfl rfl (Nat.le_of_ble_eq_true rfl) ⟨(show kc + 0 ≤ 600172 by omega), (show ks + 0 ≤ 7300668 by omega)⟩ zI2 zT_nd2 zT_ixq rfl dL_law_245) ⟨_, rfl⟩ (fun hc => ?_)
        refine zg_iload X dL_law_248 3 rfl ?_
        refine zg_icmp_ne (tgt := 267) X dL_law_250 (by decide) (fun c44 => ?_) (fun c44 => ?_)
        · have hf := pl_f c44 hf
          refine zg_loc [0, 2] rfl ?_
          exact hB267 hb hc kc ks y4 v r43.2 (by omega) (by omega) hf
        · have hf := pl_t c44 hf
          refine zg_aload_n X dL_law_253 rfl 1 rfl ?_
          obtain ⟨r45, hr45, hf⟩ := pl_b hf
          refine zg_q10 (w' := r43.2) X (zg_runV X (zt_X7_digest G b hc r43.2 fu r45 hr45) gL_law_X7_digest rfl zh_X7_digest ⟨rfl, rfl⟩ ⟨Nat.le_of_ble_eq_true rfl, Nat.le_of_ble_eq_true rfl⟩ rfl rfl rfl (Nat.le_of_ble_eq_true rfl) ⟨(show kc + 0 ≤ 600172 by omega), (show ks + 0 ≤ 7300668 by omega)⟩ zI2 zT_nd2 zT_ixq rfl dL_law_254) ⟨_, rfl⟩ (fun hc => ?_)
          refine zg_lload X dL_law_257 2 rfl ?_
          refine zg_lcmp X dL_law_259 ?_
          refine zg_if_ne (tgt := 267) X dL_law_260 (by decide) (fun c46 => ?_) (fun c46 => ?_)
          · have hf := pl_f c46 hf
            refine zg_loc [0, 2] rfl ?_
            exact hB267 hb hc kc ks y4 v r43.2 (by omega) (by omega) hf
          · have hf := pl_t c46 hf
            refine zg_iconst (v := 1) X dL_law_263 (by decide) ?_
            refine zg_goto (tgt := 268) X dL_law_264 (by decide) ?_
            refine zg_loc [0, 2] rfl ?_
            exact hB268 hb hc kc ks y4 1 v r43.2 (by omega) (by omega) hf
  have hB182 : ∀ (hb : Nat → Nat) (hc : Nat → Nat) (kc ks : Nat) (y3 : Int32) (v : zTR) (w : zTR), kc + (1508) ≤ 600000 → ks + 6 * (1508) ≤ 7300000 → zf_L_law_b182 fu fn fl xs Ls y3 v w = some 1 → zgGd G Z room_1 kc ks 8 ((zTc G a hb v) ++ (zTc G b hc w)) 182 [(1, .ref (a 0)), (2, .ref (b 0)), (3, .int y3)] [] := by
    intro hb hc kc ks y3 v w hkc hks hf
    unfold zf_L_law_b182 at hf
    refine zg_aload_n X dL_law_182 rfl 0 rfl ?_
    obtain ⟨r18, hr18, hf⟩ := pl_b hf
    refine zg_o10 (v' := v) X (zg_runV X (zt_X7_digest G a hb v fu r18 hr18) gL_law_X7_digest rfl zh_X7_digest ⟨rfl, rfl⟩ ⟨Nat.le_of_ble_eq_true rfl, Nat.le_of_ble_eq_true rfl⟩ rfl rfl rfl (Nat.le_of_ble_eq_true rfl) ⟨(show kc + 0 ≤ 600172 by omega), (show ks + 0 ≤ 7300668 by omega)⟩ zI1 zT_nd zT_ixo rfl dL_law_183) ⟨_, rfl⟩ (fun hb => ?_)
    refine zg_lstore (L' := [(4, .long r18), (1, .ref (a 0)), (2, .ref (b 0)), (3, .int y3)]) X dL_law_186 (by decide) rfl ?_
    refine zg_aload_n X dL_law_188 rfl 1 rfl ?_
    obtain ⟨r19, hr19, hf⟩ := pl_b hf
    refine zg_o10 (v' := v) X (zg_runV X (zt_X7_savedStates G a hb v fu r19 hr19) gL_law_X7_savedStates rfl zh_X7_savedStates ⟨rfl, rfl⟩ ⟨Nat.le_of_ble_eq_true rfl, Nat.le_of_ble_eq_true rfl⟩ rfl rfl rfl (Nat.le_of_ble_eq_true rfl) ⟨(show kc + 0 ≤ 600172 by omega), (show ks + 0 ≤ 7300668 by omega)⟩ zI1 zT_nd zT_ixo rfl dL_law_189) ⟨_, rfl⟩ (fun hb => ?_)
    refine zg_istore (L' := [(6, .int r19), (4, .long r18), (1, .ref (a 0)), (2, .ref (b 0)), (3, .int y3)]) X dL_law_192 (by decide) rfl ?_
    refine zg_aload_n X dL_law_194 rfl 2 rfl ?_
    refine zg_iconst (v := 1) X dL_law_195 (by decide) ?_
    obtain ⟨r20, hr20, hf⟩ := pl_b hf
    refine zg_o10 (v' := r20.2) X (zg_runV X (zt_X7_unshiftOnSpace G a hb v 1 fu r20 hr20) gL_law_X7_unshiftOnSpace rfl zh_X7_unshiftOnSpace ⟨rfl, rfl⟩ ⟨Nat.le_of_ble_eq_true rfl, Nat.le_of_ble_eq_true rfl⟩ rfl rfl rfl (Nat.le_of_ble_eq_true rfl) ⟨(show kc + 0 ≤ 600172 by omega), (show ks + 0 ≤ 7300668 by omega)⟩ zI1 zT_nd zT_ixo rfl dL_law_196) ⟨_, rfl⟩ (fun hb => ?_)
    refine zg_istore (L' := [(7, .int r20.1), (6, .int r19), (4, .long r18), (1, .ref (a 0)), (2, .ref (b 0)), (3, .int y3)]) X dL_law_199 (by decide) rfl ?_
    refine zg_iload_n X dL_law_201 rfl 5 rfl ?_
    refine zg_if_eq (tgt := 267) X dL_law_202 (by decide) (fun c21 => ?_) (fun c21 => ?_)
    · have hf := pl_t c21 hf
      refine zg_loc [3, 2] rfl ?_
      exact hB267 hb hc kc ks r18 r20.2 w (by omega) (by omega) hf
    · have hf := pl_f c21 hf
      refine zg_aload_n X dL_law_205 rfl 3 rfl ?_
      obtain ⟨r22, hr22, hf⟩ := pl_b hf
      refine zg_o1 (v' := r20.2) X (zg_runS X (zc_L_hangs G hst a hb r20.2 fu fn hfn r22 hr22) gL_law_L_hangs rfl zh_L_hangs ⟨rfl, rfl⟩ ⟨Nat.le_of_ble_eq_true rfl, Nat.le_of_ble_eq_true rfl⟩ rfl (Nat.le_of_ble_eq_true rfl) ⟨(show kc + 1506 ≤ 600172 by omega), (show ks + 9036 ≤ 7300668 by omega)⟩ zI1 zT_nd zT_ixo rfl dL_law_206) (fun u => ⟨u, rfl⟩) (fun _ => rfl) (fun hb => ?_)
      refine zg_if_eq (tgt := 267) X dL_law_209 (by decide) (fun c23 => ?_) (fun c23 => ?_)
      · have hf := pl_t c23 hf
        refine zg_loc [3, 2] rfl ?_
        exact hB267 hb hc (kc + 1506) (ks + 9036) r18 r20.2 w (by omega) (by omega) hf
      · have hf := pl_f c23 hf
        refine zg_aload_n X dL_law_212 rfl 3 rfl ?_
        obtain ⟨r24, hr24, hf⟩ := pl_b hf
        refine zg_o1 (v' := r24.2) X (zg_runSW X (zc_L_undo G hst a hb r20.2 fu r24 hr24) gL_law_L_undo rfl zh_L_undo ⟨rfl, rfl⟩ ⟨Nat.le_of_ble_eq_true rfl, Nat.le_of_ble_eq_true rfl⟩ rfl (Nat.le_of_ble_eq_true rfl) ⟨(show (kc + 1506) + 1 ≤ 600172 by omega), (show (ks + 9036) + 6 ≤ 7300668 by omega)⟩ zI1 zT_nd zT_ixo rfl dL_law_213) (fun u => ⟨u, rfl⟩) (fun _ => rfl) (fun hb => ?_)
        refine zg_iload X dL_law_216 1 rfl ?_
        refine zg_bipush (v := 6) X dL_law_218 (by decide) ?_
        refine zg_icmp_ne (tgt := 227) X dL_law_220 (by decide) (fun c25 => ?_) (fun c25 => ?_)
        · have hf := pl_f c25 hf
          refine zg_iload X dL_law_227 1 rfl ?_
          refine zg_loc [3, 4, 2, 0] rfl ?_
          exact hB229 hb hc ((kc + 1506) + 1) ((ks + 9036) + 6) r18 r20.1 r24.1 r19 r24.2 w (by omega) (by omega) hf
        · have hf := pl_t c25 hf
          refine zg_iconst (v := 5) X dL_law_223 (by decide) ?_
          refine zg_goto (tgt := 229) X dL_law_224 (by decide) ?_
          refine zg_loc [3, 4, 2, 0] rfl ?_
          exact hB229 hb hc ((kc + 1506) + 1) ((ks + 9036) + 6) r18 r20.1 r24.1 5 r24.2 w (by omega) (by omega) hf
  have hL65 : ∀ (n : Nat) (hb : Nat → Nat) (hc : Nat → Nat) (kc ks : Nat) (y3 : Int32) (y4 : Int32) (v : zTR) (w : zTR), kc + (1508 + 2027 * n) ≤ 600000 → ks + 6 * (1508 + 2027 * n) ≤ 7300000 → zf_L_law_L65 fu fn fl xs Ls n y3 y4 v w = some 1 → zgGd G Z room_1 kc ks 8 ((zTc G a hb v) ++ (zTc G b hc w)) 65 [(0, .ref sb), (1, .ref (a 0)), (2, .ref (b 0)), (3, .int y3), (4, .int y4)] [] := by
    intro n
    induction n with
    | zero =>
      intro hb hc kc ks y3 y4 v w hkc hks hf
      rw [zf_L_law_L65] at hf
      cases hf
    | succ n65 ih65 =>
      have hB175 : ∀ (hb : Nat → Nat) (hc : Nat → Nat) (kc ks : Nat) (y4 : Int32) (z0 : Int32) (v : zTR) (w : zTR), kc + (1508 + 2027 * n65) ≤ 600000 → ks + 6 * (1508 + 2027 * n65) ≤ 7300000 → zf_L_law_b175 fu fn fl xs Ls (zf_L_law_L65 fu fn fl xs Ls n65) y4 z0 v w = some 1 → zgGd G Z room_1 kc ks 8 ((zTc G a hb v) ++ (zTc G b hc w)) 175 [(0, .ref sb), (1, .ref (a 0)), (2, .ref (b 0)), (4, .int y4)] [.int z0] := by
        intro hb hc kc ks y4 z0 v w hkc hks hf
        unfold zf_L_law_b175 at hf
        refine zg_istore_n (L' := [(3, .int z0), (0, .ref sb), (1, .ref (a 0)), (2, .ref (b 0)), (4, .int y4)]) X dL_law_175 rfl (by decide) rfl ?_
        obtain ⟨x47, ex47, hf⟩ := pl_l hf
        refine zg_iinc (v := x47) (L' := [(4, .int x47), (3, .int z0), (0, .ref sb), (1, .ref (a 0)), (2, .ref (b 0))]) X dL_law_176 (j := 4) rfl (by rw [ex47]; rfl) (by decide) rfl ?_
        refine zg_goto (tgt := 65) X dL_law_179 (by decide) ?_
        refine zg_loc [2, 3, 4, 1, 0] rfl ?_
        exact ih65 hb hc kc ks z0 x47 v w (by omega) (by omega) hf
      have hB170 : ∀ (hb : Nat → Nat) (hc : Nat → Nat) (kc ks : Nat) (y4 : Int32) (v : zTR) (w : zTR), kc + (1508 + 2027 * n65) ≤ 600000 → ks + 6 * (1508 + 2027 * n65) ≤ 7300000 → zf_L_law_b170 fu fn fl xs Ls (zf_L_law_L65 fu fn fl xs Ls n65) y4 v w = some 1 → zgGd G Z room_1 kc ks 8 ((zTc G a hb v) ++ (zTc G b hc w)) 170 [(0, .ref sb), (1, .ref (a 0)), (2, .ref (b 0)), (4, .int y4)] [] := by
        intro hb hc kc ks y4 v w hkc hks hf
        unfold zf_L_law_b170 at hf
        refine zg_iconst (v := 1) X dL_law_170 (by decide) ?_
        refine zg_goto (tgt := 175) X dL_law_171 (by decide) ?_
        exact hB175 hb hc kc ks y4 1 v w (by omega) (by omega) hf
      have hB174 : ∀ (hb : Nat → Nat) (hc : Nat → Nat) (kc ks : Nat) (y4 : Int32) (v : zTR) (w : zTR), kc + (1508 + 2027 * n65) ≤ 600000 → ks + 6 * (1508 + 2027 * n65) ≤ 7300000 → zf_L_law_b174 fu fn fl xs Ls (zf_L_law_L65 fu fn fl xs Ls n65) y4 v w = some 1 → zgGd G Z room_1 kc ks 8 ((zTc G a hb v) ++ (zTc G b hc w)) 174 [(0, .ref sb), (1, .ref (a 0)), (2, .ref (b 0)), (4, .int y4)] [] := by
        intro hb hc kc ks y4 v w hkc hks hf
        unfold zf_L_law_b174 at hf
        refine zg_iconst (v := 0) X dL_law_174 (by decide) ?_
        exact hB175 hb hc kc ks y4 0 v w (by omega) (by omega) hf
      have hB111 : ∀ (hb : Nat → Nat) (hc : Nat → Nat) (kc ks : Nat) (y4 : Int32) (y5 : Int32) (y6 : Int32) (v : zTR) (w : zTR), kc + (3265 + 2027 * n65) ≤ 600000 → ks + 6 * (3265 + 2027 * n65) ≤ 7300000 → zf_L_law_b111 fu fn fl xs Ls (zf_L_law_L65 fu fn fl xs Ls n65) y4 y5 y6 v w = some 1 → zgGd G Z room_1 kc ks 8 ((zTc G a hb v) ++ (zTc G b hc w)) 111 [(0, .ref sb), (1, .ref (a 0)), (2, .ref (b 0)), (4, .int y4), (5, .int y5), (6, .int y6)] [] := by
        intro hb hc kc ks y4 y5 y6 v w hkc hks hf
        unfold zf_L_law_b111 at hf
        refine zg_aload_n X dL_law_111 rfl 2 rfl ?_
        refine zg_iload X dL_law_112 4 rfl ?_
        obtain ⟨r26, hr26, hf⟩ := pl_b hf
        refine zg_q1 (w' := r26.2) X (zg_runS X (zc_L_acts G hst b hc w y5 fu fn hfn r26 hr26) gL_law_L_acts rfl zh_L_acts ⟨rfl, rfl⟩ ⟨Nat.le_of_ble_eq_true rfl, Nat.le_of_ble_eq_true rfl⟩ rfl (Nat.le_of_ble_eq_true rfl) ⟨(show kc + 251 ≤ 600172 by omega), (show ks + 1506 ≤ 7300668 by omega)⟩ zI2 zT_nd2 zT_ixq rfl dL_law_114) (fun u => ⟨u, rfl⟩) (fun _ => rfl) (fun hc => ?_)
        refine zg_iload X dL_law_117 5 rfl ?_
        refine zg_icmp_ne (tgt := 174) X dL_law_119 (by decide) (fun c27 => ?_) (fun c27 => ?_)
        · have hf := pl_f c27 hf
          refine zg_loc [0, 1, 2, 3] rfl ?_
          exact hB174 hb hc (kc + 251) (ks + 1506) y4 v r26.2 (by omega) (by omega) hf
        · have hf := pl_t c27 hf
          refine zg_aload_n X dL_law_122 rfl 1 rfl ?_
          obtain ⟨r28, hr28, hf⟩ := pl_b hf
          refine zg_o10 (v' := v) X (zg_runV X (zt_X7_savedStates G a hb v fu r28 hr28) gL_law_X7_savedStates rfl zh_X7_savedStates ⟨rfl, rfl⟩ ⟨Nat.le_of_ble_eq_true rfl, Nat.le_of_ble_eq_true rfl⟩ rfl rfl rfl (Nat.le_of_ble_eq_true rfl) ⟨(show (kc + 251) + 0 ≤ 600172 by omega), (show (ks + 1506) + 0 ≤ 7300668 by omega)⟩ zI1 zT_nd zT_ixo rfl dL_law_123) ⟨_, rfl⟩ (fun hb => ?_)
          refine zg_aload_n X dL_law_126 rfl 2 rfl ?_
          obtain ⟨r29, hr29, hf⟩ := pl_b hf
          refine zg_q10 (w' := r26.2) X (zg_runV X (zt_X7_savedStates G b hc r26.2 fu r29 hr29) gL_law_X7_savedStates rfl zh_X7_savedStates ⟨rfl, rfl⟩ ⟨Nat.le_of_ble_eq_true rfl, Nat.le_of_ble_eq_true rfl⟩ rfl rfl rfl (Nat.le_of_ble_eq_true rfl) ⟨(show (kc + 251) + 0 ≤ 600172 by omega), (show (ks + 1506) + 0 ≤ 7300668 by omega)⟩ zI2 zT_nd2 zT_ixq rfl dL_law_127) ⟨_, rfl⟩ (fun hc => ?_)
          refine zg_icmp_ne (tgt := 174) X dL_law_130 (by decide) (fun c30 => ?_) (fun c30 => ?_)
          · have hf := pl_f c30 hf
            refine zg_loc [0, 1, 2, 3] rfl ?_
            exact hB174 hb hc (kc + 251) (ks + 1506) y4 v r26.2 (by omega) (by omega) hf
          · have hf := pl_t c30 hf
            refine zg_aload_n X dL_law_133 rfl 1 rfl ?_
            obtain ⟨r31, hr31, hf⟩ := pl_b hf
            refine zg_o10 (v' := v) X (zg_runV X (zt_X7_digest G a hb v fu r31 hr31) gL_law_X7_digest rfl zh_X7_digest ⟨rfl, rfl⟩ ⟨Nat.le_of_ble_eq_true rfl, Nat.le_of_ble_eq_true rfl⟩ rfl rfl rfl (Nat.le_of_ble_eq_true rfl) ⟨(show (kc + 251) + 0 ≤ 600172 by omega), (show (ks + 1506) + 0 ≤ 7300668 by omega)⟩ zI1 zT_nd zT_ixo rfl dL_law_134) ⟨_, rfl⟩ (fun hb => ?_)
            refine zg_aload_n X dL_law_137 rfl 2 rfl ?_
            obtain ⟨r32, hr32, hf⟩ := pl_b hf
            refine zg_q10 (w' := r26.2) X (zg_runV X (zt_X7_digest G b hc r26.2 fu r32 hr32) gL_law_X7_digest rfl zh_X7_digest ⟨rfl, rfl⟩ ⟨Nat.le_of_ble_eq_true rfl, Nat.le_of_ble_eq_true rfl⟩ rfl rfl rfl (Nat.le_of_ble_eq_true rfl) ⟨(show (kc + 251) + 0 ≤ 600172 by omega), (show (ks + 1506) + 0 ≤ 7300668 by omega)⟩ zI2 zT_nd2 zT_ixq rfl dL_law_138) ⟨_, rfl⟩ (fun hc => ?_)
            refine zg_lcmp X dL_law_141 ?_
            refine zg_if_ne (tgt := 174) X dL_law_142 (by decide) (fun c33 => ?_) (fun c33 => ?_)
            · have hf := pl_f c33 hf
              refine zg_loc [0, 1, 2, 3] rfl ?_
              exact hB174 hb hc (kc + 251) (ks + 1506) y4 v r26.2 (by omega) (by omega) hf
            · have hf := pl_t c33 hf
              refine zg_iload X dL_law_145 3 rfl ?_
              refine zg_iconst (v := 3) X dL_law_147 (by decide) ?_
              refine zg_irem X dL_law_148 (by decide) ?_
              refine zg_if_gt (tgt := 170) X dL_law_149 (by decide) (fun c34 => ?_) (fun c34 => ?_)
              · have hf := pl_t c34 hf
                refine zg_loc [0, 1, 2, 3] rfl ?_
                exact hB170 hb hc (kc + 251) (ks + 1506) y4 v r26.2 (by omega) (by omega) hf
              · have hf := pl_f c34 hf
                refine zg_iload X dL_law_152 3 rfl ?_
                refine zg_iconst (v := 2) X dL_law_154 (by decide) ?_
                refine zg_irem X dL_law_155 (by decide) ?_
                refine zg_if_ne (tgt := 163) X dL_law_156 (by decide) (fun c35 => ?_) (fun c35 => ?_)
                · have hf := pl_f c35 hf
                  refine zg_aload_n X dL_law_163 rfl 2 rfl ?_
                  obtain ⟨r36, hr36, hf⟩ := pl_b hf
                  refine zg_q1 (w' := r26.2) X (zg_runS X (zc_L_hangs G hst b hc r26.2 fu fn hfn r36 hr36) gL_law_L_hangs rfl zh_L_hangs ⟨rfl, rfl⟩ ⟨Nat.le_of_ble_eq_true rfl, Nat.le_of_ble_eq_true rfl⟩ rfl (Nat.le_of_ble_eq_true rfl) ⟨(show (kc + 251) + 1506 ≤ 600172 by omega), (show (ks + 1506) + 9036 ≤ 7300668 by omega)⟩ zI2 zT_nd2 zT_ixq rfl dL_law_164) (fun u => ⟨u, rfl⟩) (fun _ => rfl) (fun hc => ?_)
                  refine zg_if_eq (tgt := 174) X dL_law_167 (by decide) (fun c37 => ?_) (fun c37 => ?_)
                  · have hf := pl_t c37 hf
                    refine zg_loc [0, 1, 2, 3] rfl ?_
                    exact hB174 hb hc ((kc + 251) + 1506) ((ks + 1506) + 9036) y4 v r26.2 (by omega) (by omega) hf
                  · have hf := pl_f c37 hf
                    refine zg_loc [0, 1, 2, 3] rfl ?_
                    exact hB170 hb hc ((kc + 251) + 1506) ((ks + 1506) + 9036) y4 v r26.2 (by omega) (by omega) hf
                · have hf := pl_t c35 hf
                  refine zg_aload_n X dL_law_159 rfl 1 rfl ?_
                  refine zg_goto (tgt := 164) X dL_law_160 (by decide) ?_
                  obtain ⟨r38, hr38, hf⟩ := pl_b hf
                  refine zg_o1 (v' := v) X (zg_runS X (zc_L_hangs G hst a hb v fu fn hfn r38 hr38) gL_law_L_hangs rfl zh_L_hangs ⟨rfl, rfl⟩ ⟨Nat.le_of_ble_eq_true rfl, Nat.le_of_ble_eq_true rfl⟩ rfl (Nat.le_of_ble_eq_true rfl) ⟨(show (kc + 251) + 1506 ≤ 600172 by omega), (show (ks + 1506) + 9036 ≤ 7300668 by omega)⟩ zI1 zT_nd zT_ixo rfl dL_law_164) (fun u => ⟨u, rfl⟩) (fun _ => rfl) (fun hb => ?_)
                  refine zg_if_eq (tgt := 174) X dL_law_167 (by decide) (fun c39 => ?_) (fun c39 => ?_)
                  · have hf := pl_t c39 hf
                    refine zg_loc [0, 1, 2, 3] rfl ?_
                    exact hB174 hb hc ((kc + 251) + 1506) ((ks + 1506) + 9036) y4 v r26.2 (by omega) (by omega) hf
                  · have hf := pl_f c39 hf
                    refine zg_loc [0, 1, 2, 3] rfl ?_
                    exact hB170 hb hc ((kc + 251) + 1506) ((ks + 1506) + 9036) y4 v r26.2 (by omega) (by omega) hf
      intro hb hc kc ks y3 y4 v w hkc hks hf
      rw [zf_L_law_L65] at hf
      refine zg_iload X dL_law_65 4 rfl ?_
      refine zg_bipush (v := 30) X dL_law_67 (by decide) ?_
      refine zg_icmp_ge (tgt := 182) X dL_law_69 (by decide) (fun c11 => ?_) (fun c11 => ?_)
      · have hf := pl_t c11 hf
        refine zg_loc [1, 2, 3] rfl ?_
        exact hB182 hb hc kc ks y3 v w (by omega) (by omega) hf
      · have hf := pl_f c11 hf
        refine zg_iload_n X dL_law_72 rfl 3 rfl ?_
        refine zg_if_eq (tgt := 182) X dL_law_73 (by decide) (fun c12 => ?_) (fun c12 => ?_)
        · have hf := pl_t c12 hf
          refine zg_loc [1, 2, 3] rfl ?_
          exact hB182 hb hc kc ks y3 v w (by omega) (by omega) hf
        · have hf := pl_f c12 hf
          refine zg_aload_n X dL_law_76 rfl 0 rfl ?_
          refine zg_iload X dL_law_77 4 rfl ?_
          obtain ⟨r13, hr13, hf⟩ := pl_b hf
          refine zg_cell X hX hbl hbA hr13 gL_law_L_cell (Nat.le_of_ble_eq_true rfl) (Nat.le_of_ble_eq_true rfl) (Nat.le_of_ble_eq_true rfl) (show kc + 0 ≤ 600172 by omega) (show ks + 0 ≤ 7300668 by omega) dL_law_79 ?_
          refine zg_istore (L' := [(5, .int r13), (0, .ref sb), (1, .ref (a 0)), (2, .ref (b 0)), (3, .int y3), (4, .int y4)]) X dL_law_82 (by decide) rfl ?_
          refine zg_aload_n X dL_law_84 rfl 2 rfl ?_
          refine zg_iload X dL_law_85 0 rfl ?_
          obtain ⟨r14, hr14, hf⟩ := pl_b hf
          refine zg_o1 (v' := r14.2) X (zg_runS X (zc_L_acts G hst a hb v r13 fu fn hfn r14 hr14) gL_law_L_acts rfl zh_L_acts ⟨rfl, rfl⟩ ⟨Nat.le_of_ble_eq_true rfl, Nat.le_of_ble_eq_true rfl⟩ rfl (Nat.le_of_ble_eq_true rfl) ⟨(show kc + 251 ≤ 600172 by omega), (show ks + 1506 ≤ 7300668 by omega)⟩ zI1 zT_nd zT_ixo rfl dL_law_87) (fun u => ⟨u, rfl⟩) (fun _ => rfl) (fun hb => ?_)
          refine zg_istore (L' := [(6, .int r14.1), (5, .int r13), (0, .ref sb), (1, .ref (a 0)), (2, .ref (b 0)), (3, .int y3), (4, .int y4)]) X dL_law_90 (by decide) rfl ?_
          refine zg_iload X dL_law_92 6 rfl ?_
          refine zg_iconst (v := 3) X dL_law_94 (by decide) ?_
          refine zg_irem X dL_law_95 (by decide) ?_
          refine zg_if_gt (tgt := 111) X dL_law_96 (by decide) (fun c15 => ?_) (fun c15 => ?_)
          · have hf := pl_t c15 hf
            refine zg_loc [2, 3, 4, 6, 1, 0] rfl ?_
            exact hB111 hb hc (kc + 251) (ks + 1506) y4 r13 r14.1 r14.2 w (by omega) (by omega) hf
          · have hf := pl_f c15 hf
            refine zg_aload_n X dL_law_99 rfl 4 rfl ?_
            refine zg_iload X dL_law_100 1 rfl ?_
            refine zg_ldcI (v := 100000) X dL_law_102 hw0 ?_
            refine zg_irem X dL_law_104 (by decide) ?_
            obtain ⟨r16, hr16, hf⟩ := pl_b hf
            refine zg_q1 (w' := r16.2) X (zg_runS X (zc_L_refuses G hst b hc w (r13 - r13 / 100000 * 100000) fu fn hfn r16 hr16) gL_law_L_refuses rfl zh_L_refuses ⟨rfl, rfl⟩ ⟨Nat.le_of_ble_eq_true rfl, Nat.le_of_ble_eq_true rfl⟩ rfl (Nat.le_of_ble_eq_true rfl) ⟨(show (kc + 251) + 19 ≤ 600172 by omega), (show (ks + 1506) + 114 ≤ 7300668 by omega)⟩ zI2 zT_nd2 zT_ixq rfl dL_law_105) (fun u => ⟨u, rfl⟩) (fun _ => rfl) (fun hc => ?_)
            refine zg_if_eq (tgt := 174) X dL_law_108 (by decide) (fun c17 => ?_) (fun c17 => ?_)
            · have hf := pl_t c17 hf
              refine zg_loc [2, 3, 4, 6] rfl ?_
              exact hB174 hb hc ((kc + 251) + 19) ((ks + 1506) + 114) y4 r14.2 r16.2 (by omega) (by omega) hf
            · have hf := pl_f c17 hf
              refine zg_loc [2, 3, 4, 6, 1, 0] rfl ?_
              exact hB111 hb hc ((kc + 251) + 19) ((ks + 1506) + 114) y4 r13 r14.1 r14.2 r16.2 (by omega) (by omega) hf
  have hB61 : ∀ (hb : Nat → Nat) (hc : Nat → Nat) (kc ks : Nat) (z0 : Int32) (v : zTR) (w : zTR), kc + (64345) ≤ 600000 → ks + 6 * (64345) ≤ 7300000 → zf_L_law_b61 fu fn fl xs Ls z0 v w = some 1 → zgGd G Z room_1 kc ks 8 ((zTc G a hb v) ++ (zTc G b hc w)) 61 [(0, .ref sb), (1, .ref (a 0)), (2, .ref (b 0))] [.int z0] := by
    intro hb hc kc ks z0 v w hkc hks hf
    unfold zf_L_law_b61 at hf
    refine zg_istore_n (L' := [(3, .int z0), (0, .ref sb), (1, .ref (a 0)), (2, .ref (b 0))]) X dL_law_61 rfl (by decide) rfl ?_
    refine zg_iconst (v := 0) X dL_law_62 (by decide) ?_
    refine zg_istore (L' := [(4, .int 0), (3, .int z0), (0, .ref sb), (1, .ref (a 0)), (2, .ref (b 0))]) X dL_law_63 (by decide) rfl ?_
    refine zg_loc [2, 3, 4, 1, 0] rfl ?_
    exact hL65 fl hb hc kc ks z0 0 v w (by omega) (by omega) hf
  have hB60 : ∀ (hb : Nat → Nat) (hc : Nat → Nat) (kc ks : Nat) (v : zTR) (w : zTR), kc + (64345) ≤ 600000 → ks + 6 * (64345) ≤ 7300000 → zf_L_law_b60 fu fn fl xs Ls v w = some 1 → zgGd G Z room_1 kc ks 8 ((zTc G a hb v) ++ (zTc G b hc w)) 60 [(0, .ref sb), (1, .ref (a 0)), (2, .ref (b 0))] [] := by
    intro hb hc kc ks v w hkc hks hf
    unfold zf_L_law_b60 at hf
    refine zg_iconst (v := 0) X dL_law_60 (by decide) ?_
    exact hB61 hb hc kc ks 0 v w (by omega) (by omega) hf
  intro hb hc kc ks v w hkc hks hf
  unfold zf_L_law_b16 at hf
  refine zg_aload_n X dL_law_16 rfl 1 rfl ?_
  obtain ⟨r1, hr1, hf⟩ := pl_b hf
  refine zg_o1 (v' := r1.2) X (zg_runSW X (zc_L_undo G hst a hb v fu r1 hr1) gL_law_L_undo rfl zh_L_undo ⟨rfl, rfl⟩ ⟨Nat.le_of_ble_eq_true rfl, Nat.le_of_ble_eq_true rfl⟩ rfl (Nat.le_of_ble_eq_true rfl) ⟨(show kc + 1 ≤ 600172 by omega), (show ks + 6 ≤ 7300668 by omega)⟩ zI1 zT_nd zT_ixo rfl dL_law_17) (fun u => ⟨u, rfl⟩) (fun _ => rfl) (fun hb => ?_)
  refine zg_bipush (v := (-2)) X dL_law_20 (by decide) ?_
  refine zg_icmp_ne (tgt := 60) X dL_law_22 (by decide) (fun c2 => ?_) (fun c2 => ?_)
  · have hf := pl_f c2 hf
    exact hB60 hb hc (kc + 1) (ks + 6) r1.2 w (by omega) (by omega) hf
  · have hf := pl_t c2 hf
    refine zg_aload_n X dL_law_25 rfl 1 rfl ?_
    obtain ⟨r3, hr3, hf⟩ := pl_b hf
    refine zg_o10 (v' := r3.2) X (zg_runV X (zt_X7_codesToSend G a hb r1.2 fu r3 hr3) gL_law_X7_codesToSend rfl zh_X7_codesToSend ⟨rfl, rfl⟩ ⟨Nat.le_of_ble_eq_true rfl, Nat.le_of_ble_eq_true rfl⟩ rfl rfl rfl (Nat.le_of_ble_eq_true rfl) ⟨(show (kc + 1) + 0 ≤ 600172 by omega), (show (ks + 6) + 0 ≤ 7300668 by omega)⟩ zI1 zT_nd zT_ixo rfl dL_law_26) ⟨_, rfl⟩ (fun hb => ?_)
    refine zg_if_ne (tgt := 60) X dL_law_29 (by decide) (fun c4 => ?_) (fun c4 => ?_)
    · have hf := pl_f c4 hf
      exact hB60 hb hc (kc + 1) (ks + 6) r3.2 w (by omega) (by omega) hf
    · have hf := pl_t c4 hf
      refine zg_aload_n X dL_law_32 rfl 1 rfl ?_
      obtain ⟨r5, hr5, hf⟩ := pl_b hf
      refine zg_o10 (v' := r3.2) X (zg_runV X (zt_X7_plausibility G a hb r3.2 fu r5 hr5) gL_law_X7_plausibility rfl zh_X7_plausibility ⟨rfl, rfl⟩ ⟨Nat.le_of_ble_eq_true rfl, Nat.le_of_ble_eq_true rfl⟩ rfl rfl rfl (Nat.le_of_ble_eq_true rfl) ⟨(show (kc + 1) + 0 ≤ 600172 by omega), (show (ks + 6) + 0 ≤ 7300668 by omega)⟩ zI1 zT_nd zT_ixo rfl dL_law_33) ⟨_, rfl⟩ (fun hb => ?_)
      refine zg_dconst1 X dL_law_36 ?_
      refine zg_dcmp X dL_law_37 ?_
      refine zg_if_ne (tgt := 60) X dL_law_38 (by decide) (fun c6 => ?_) (fun c6 => ?_)
      · have hf := pl_f c6 hf
        exact hB60 hb hc (kc + 1) (ks + 6) r3.2 w (by omega) (by omega) hf
      · have hf := pl_t c6 hf
        refine zg_aload_n X dL_law_41 rfl 1 rfl ?_
        obtain ⟨r7, hr7, hf⟩ := pl_b hf
        refine zg_o10 (v' := r3.2) X (zg_runV X (zt_X7_bestRepair G a hb r3.2 fu r7 hr7) gL_law_X7_bestRepair rfl zh_X7_bestRepair ⟨rfl, rfl⟩ ⟨Nat.le_of_ble_eq_true rfl, Nat.le_of_ble_eq_true rfl⟩ rfl rfl rfl (Nat.le_of_ble_eq_true rfl) ⟨(show (kc + 1) + 0 ≤ 600172 by omega), (show (ks + 6) + 0 ≤ 7300668 by omega)⟩ zI1 zT_nd zT_ixo rfl dL_law_42) ⟨_, rfl⟩ (fun hb => ?_)
        refine zg_iconst (v := (-1)) X dL_law_45 (by decide) ?_
        refine zg_icmp_ne (tgt := 60) X dL_law_46 (by decide) (fun c8 => ?_) (fun c8 => ?_)
        · have hf := pl_f c8 hf
          exact hB60 hb hc (kc + 1) (ks + 6) r3.2 w (by omega) (by omega) hf
        · have hf := pl_t c8 hf
          refine zg_aload_n X dL_law_49 rfl 1 rfl ?_
          obtain ⟨r9, hr9, hf⟩ := pl_b hf
          refine zg_o1 (v' := r3.2) X (zg_runS X (zc_L_hangs G hst a hb r3.2 fu fn hfn r9 hr9) gL_law_L_hangs rfl zh_L_hangs ⟨rfl, rfl⟩ ⟨Nat.le_of_ble_eq_true rfl, Nat.le_of_ble_eq_true rfl⟩ rfl (Nat.le_of_ble_eq_true rfl) ⟨(show (kc + 1) + 1506 ≤ 600172 by omega), (show (ks + 6) + 9036 ≤ 7300668 by omega)⟩ zI1 zT_nd zT_ixo rfl dL_law_50) (fun u => ⟨u, rfl⟩) (fun _ => rfl) (fun hb => ?_)
          refine zg_if_eq (tgt := 60) X dL_law_53 (by decide) (fun c10 => ?_) (fun c10 => ?_)
          · have hf := pl_t c10 hf
            exact hB60 hb hc ((kc + 1) + 1506) ((ks + 6) + 9036) r3.2 w (by omega) (by omega) hf
          · have hf := pl_f c10 hf
            refine zg_iconst (v := 1) X dL_law_56 (by decide) ?_
            refine zg_goto (tgt := 61) X dL_law_57 (by decide) ?_
            exact hB61 hb hc ((kc + 1) + 1506) ((ks + 6) + 9036) 1 r3.2 w (by omega) (by omega) hf
