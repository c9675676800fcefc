/-! ===== the law: all its calls ===== -/
section ZLX
theorem zpla_eq {A : zAb} (hk : zok A) : Op.cmpValue (FP.dcmp (zpla A.2.1) (zpla A.2.1)) .l = 0 := by
  have hl := (zPn_le hk).2.2.1
  unfold zpla
  by_cases h0 : (zPn A.2.1).2.2.1.length = 0
  · rw [if_pos h0]
    decide +kernel
  · rw [if_neg h0]
    exact (zpq_ok (by omega) hl (Nat.sub_le _ _)).2
theorem zl_g {Ls y : Nat} (h1 : Ls ≤ 1536) (h2 : y ≤ 1536) : nI Ls - 3 < nI y ↔ Ls < y + 3 := by
  have t1 := nI_toInt (n := Ls) (by omega)
  have t2 := nI_toInt (n := y) (by omega)
  have t3 : (3 : Int32).toInt = 3 := by decide
  rw [Int32.lt_iff_toInt_lt, Int32.toInt_sub, t1, t2, t3, Int.bmod_eq_of_le (by omega) (by omega)]
  omega
set_option maxHeartbeats 4000000 in
set_option maxRecDepth 10000 in
theorem zl_step {xs : Nat → Int32} {Ls : Nat} (hL : Ls ≤ 1536) {n y : Nat} (hy : y + 3 ≤ Ls) {v : zTR} {m : zModel} {A : zAb} (o : Nat → Int64) (hv : zcR v A) (hm : zmR m A) (hk : zok A) (hK : ∀ (v' : zTR) (m' : zModel) (o' : Nat → Int64) (A' : zAb), zcR v' A' → zmR m' A' → zok A' → zf_L_law_b1289 10000 xs Ls (zf_L_law_L23 10000 xs Ls n) (nI y) v' m' o' = some 1) : zf_L_law_L23 10000 xs Ls (n + 1) (nI y) v m o = some 1 := by
  unfold zf_L_law_L23
  rw [if_neg (fun h => by have := (zl_g hL (by omega)).mp h; omega), if_neg (nI_in (by omega) (by omega)), zlet_eq]
  refine zl_ite (fun _ => ?_) (fun _ => ?_)
  · refine zl_rd1 hy hL ?_
    obtain ⟨v', e1, r1⟩ := ck_app hv (xs (y + 1))
    obtain ⟨m', e2, e3, r2⟩ := mk_app hm hk (xs (y + 1))
    obtain ⟨o', e4, ho⟩ := zh_append o (xs (y + 1)) e1 (hc_app A _)
    refine zl_bd e4 ?_
    refine zl_rd1 hy hL ?_
    refine zl_bd e2 ?_
    refine zl_bd e3 ?_
    exact zl_tail ho (hK v' m' o' _ r1 r2 (ok_app hk _))
  refine zl_ite (fun _ => ?_) (fun _ => ?_)
  · obtain ⟨v', e1, r1⟩ := ck_clr hv
    obtain ⟨m', e2, r2⟩ := mk_clr hm
    exact zl_bd e1 (zl_bd e2 (zl_eq rfl (hK v' m' o _ r1 r2 (ok_clr hk))))
  refine zl_ite (fun _ => ?_) (fun _ => ?_)
  · obtain ⟨v', e1, r1⟩ := ck_need hv
    obtain ⟨m', e2, r2⟩ := mk_need hm hk
    exact zl_bd e1 (zl_bd e2 (zl_eq rfl (hK v' m' o _ r1 r2 (hk))))
  refine zl_ite (fun _ => ?_) (fun _ => ?_)
  · obtain ⟨v', e1, r1⟩ := ck_snd hv hk
    obtain ⟨m', e2, e3, r2⟩ := mk_snd hm hk
    obtain ⟨o', e4, ho⟩ := zh_send o  e1 (hc_snd A)
    refine zl_bd e4 ?_
    refine zl_bd e2 ?_
    refine zl_bd e3 ?_
    exact zl_tail ho (hK v' m' o' _ r1 r2 (ok_snd hk))
  refine zl_ite (fun _ => ?_) (fun _ => ?_)
  · refine zl_rd1 hy hL ?_
    refine zl_rd2 hy hL ?_
    obtain ⟨v', e1, r1⟩ := ck_flt hv hk (xs (y + 1)) (xs (y + 2))
    obtain ⟨m', e2, e3, r2⟩ := mk_flt hm hk (xs (y + 1)) (xs (y + 2))
    obtain ⟨o', e4, ho⟩ := zh_setFault o (xs (y + 1)) (xs (y + 2)) e1 (hc_flt A _ _)
    refine zl_bd e4 ?_
    refine zl_rd1 hy hL ?_
    refine zl_rd2 hy hL ?_
    refine zl_bd e2 ?_
    refine zl_bd e3 ?_
    exact zl_tail ho (hK v' m' o' _ r1 r2 (ok_flt hk _ _))
  refine zl_ite (fun _ => ?_) (fun _ => ?_)
  · obtain ⟨m', e2, r2⟩ := mq_sent hm
    exact zl_bd (cq_sent hv) (zl_bd e2 (zl_eq rfl (hK v m' o A hv r2 hk)))
  refine zl_ite (fun _ => ?_) (fun _ => ?_)
  · obtain ⟨m', e2, r2⟩ := mq_recv hm
    exact zl_bd (cq_recv hv) (zl_bd e2 (zl_eq rfl (hK v m' o A hv r2 hk)))
  refine zl_ite (fun _ => ?_) (fun _ => ?_)
  · refine zl_rd1 hy hL ?_
    obtain ⟨m', e2, e3, r2⟩ := mq_sentCode hm hk (xs (y + 1))
    obtain ⟨o', e4, ho⟩ := zh_sentCode o (xs (y + 1)) (cq_sentCode hv (xs (y + 1))) (hc_idx _ _)
    refine zl_bd e4 ?_
    refine zl_rd1 hy hL ?_
    refine zl_bd e2 ?_
    refine zl_bd e3 ?_
    exact zl_tail ho (hK v m' o' A hv r2 hk)
  refine zl_ite (fun _ => ?_) (fun _ => ?_)
  · refine zl_rd1 hy hL ?_
    obtain ⟨m', e2, e3, r2⟩ := mq_recvCode hm hk (xs (y + 1))
    obtain ⟨o', e4, ho⟩ := zh_receivedCode o (xs (y + 1)) (cq_recvCode hv (xs (y + 1))) (hc_idx _ _)
    refine zl_bd e4 ?_
    refine zl_rd1 hy hL ?_
    refine zl_bd e2 ?_
    refine zl_bd e3 ?_
    exact zl_tail ho (hK v m' o' A hv r2 hk)
  refine zl_ite (fun _ => ?_) (fun _ => ?_)
  · obtain ⟨m', e2, r2⟩ := mq_shift hm
    exact zl_bd (cq_shift hv) (zl_bd e2 (zl_eq rfl (hK v m' o A hv r2 hk)))
  refine zl_ite (fun _ => ?_) (fun _ => ?_)
  · obtain ⟨m', e2, r2⟩ := mq_faults hm hk
    exact zl_bd (cq_faults hv) (zl_bd e2 (zl_eq rfl (hK v m' o A hv r2 hk)))
  refine zl_ite (fun _ => ?_) (fun _ => ?_)
  · refine zl_rd1 hy hL ?_
    refine zl_ite (fun e => ?_) (fun e => ?_)
    · obtain ⟨v', e1, r1⟩ := ck_uns hv hk (show zbit 0 from Or.inl rfl)
      obtain ⟨m', e2, r2⟩ := mk_uns hm hk (show zbit 0 from Or.inl rfl)
      unfold zf_L_law_b561
      refine zl_bd e1 ?_
      refine zl_rd1 hy hL ?_
      rw [if_pos e]
      unfold zf_L_law_b579
      exact zl_bd e2 (zl_eq rfl (hK v' m' o _ r1 r2 (ok_uns hk (Or.inl rfl))))
    · obtain ⟨v', e1, r1⟩ := ck_uns hv hk (show zbit 1 from Or.inr rfl)
      obtain ⟨m', e2, r2⟩ := mk_uns hm hk (show zbit 1 from Or.inr rfl)
      unfold zf_L_law_b561
      refine zl_bd e1 ?_
      refine zl_rd1 hy hL ?_
      rw [if_neg e]
      unfold zf_L_law_b579
      exact zl_bd e2 (zl_eq rfl (hK v' m' o _ r1 r2 (ok_uns hk (Or.inr rfl))))
  refine zl_ite (fun _ => ?_) (fun _ => ?_)
  · obtain ⟨v', e1, r1⟩ := ck_lrn hv hk
    obtain ⟨m', e2, e3, r2⟩ := mk_lrn hm hk
    obtain ⟨o', e4, ho⟩ := zh_learn o  e1 (hc_lrn A)
    refine zl_bd e4 ?_
    refine zl_bd e2 ?_
    refine zl_bd e3 ?_
    exact zl_tail ho (hK v' m' o' _ r1 r2 (ok_lrn hk))
  refine zl_ite (fun _ => ?_) (fun _ => ?_)
  · refine zl_rd1 hy hL ?_
    obtain ⟨v', e1, r1⟩ := ck_fgt hv hk (xs (y + 1))
    obtain ⟨m', e2, e3, r2⟩ := mk_fgt hm hk (xs (y + 1))
    obtain ⟨o', e4, ho⟩ := zh_forget o (xs (y + 1)) e1 (hc_fgt A _)
    refine zl_bd e4 ?_
    refine zl_rd1 hy hL ?_
    refine zl_bd e2 ?_
    refine zl_bd e3 ?_
    exact zl_tail ho (hK v' m' o' _ r1 r2 (ok_fgt hk _))
  refine zl_ite (fun _ => ?_) (fun _ => ?_)
  · obtain ⟨m', e2, r2⟩ := mq_words hm
    exact zl_bd (cq_words hv) (zl_bd e2 (zl_eq rfl (hK v m' o A hv r2 hk)))
  refine zl_ite (fun _ => ?_) (fun _ => ?_)
  · refine zl_rd1 hy hL ?_
    refine zl_rd2 hy hL ?_
    obtain ⟨m', e2, e3, r2⟩ := mq_letter hm hk (xs (y + 1)) (xs (y + 2))
    obtain ⟨o', e4, ho⟩ := zh_wordLetter o (xs (y + 1)) (xs (y + 2)) (cq_letter hv hk (xs (y + 1)) (xs (y + 2))) (hc_let A _ _)
    refine zl_bd e4 ?_
    refine zl_rd1 hy hL ?_
    refine zl_rd2 hy hL ?_
    refine zl_bd e2 ?_
    refine zl_bd e3 ?_
    exact zl_tail ho (hK v m' o' A hv r2 hk)
  refine zl_ite (fun _ => ?_) (fun _ => ?_)
  · refine zl_rd1 hy hL ?_
    obtain ⟨m', e2, e3, r2⟩ := mq_uses hm hk (xs (y + 1))
    obtain ⟨o', e4, ho⟩ := zh_uses o (xs (y + 1)) (cq_uses hv (xs (y + 1))) (hc_use A _)
    refine zl_bd e4 ?_
    refine zl_rd1 hy hL ?_
    refine zl_bd e2 ?_
    refine zl_bd e3 ?_
    exact zl_tail ho (hK v m' o' A hv r2 hk)
  refine zl_ite (fun _ => ?_) (fun _ => ?_)
  · obtain ⟨m', e2, r2⟩ := mq_prLen hm hk
    exact zl_bd (cq_prLen hv) (zl_bd e2 (zl_eq rfl (hK v m' o A hv r2 hk)))
  refine zl_ite (fun _ => ?_) (fun _ => ?_)
  · refine zl_rd1 hy hL ?_
    obtain ⟨m', e2, e3, r2⟩ := mq_printed hm hk (xs (y + 1))
    obtain ⟨o', e4, ho⟩ := zh_printed o (xs (y + 1)) (cq_printed hv (xs (y + 1))) (hc_idx _ _)
    refine zl_bd e4 ?_
    refine zl_rd1 hy hL ?_
    refine zl_bd e2 ?_
    refine zl_bd e3 ?_
    exact zl_tail ho (hK v m' o' A hv r2 hk)
  refine zl_ite (fun _ => ?_) (fun _ => ?_)
  · obtain ⟨m', e2, r2⟩ := mq_segs hm hk
    exact zl_bd (cq_segs hv) (zl_bd e2 (zl_eq rfl (hK v m' o A hv r2 hk)))
  refine zl_ite (fun _ => ?_) (fun _ => ?_)
  · refine zl_rd1 hy hL ?_
    obtain ⟨m', e2, e3, r2⟩ := mq_segLen hm hk (xs (y + 1))
    obtain ⟨o', e4, ho⟩ := zh_segmentLength o (xs (y + 1)) (cq_segLen hv (xs (y + 1))) (hc_idx _ _)
    refine zl_bd e4 ?_
    refine zl_rd1 hy hL ?_
    refine zl_bd e2 ?_
    refine zl_bd e3 ?_
    exact zl_tail ho (hK v m' o' A hv r2 hk)
  refine zl_ite (fun _ => ?_) (fun _ => ?_)
  · refine zl_rd1 hy hL ?_
    obtain ⟨m', e2, e3, r2⟩ := mq_segKind hm hk (xs (y + 1))
    obtain ⟨o', e4, ho⟩ := zh_segmentKind o (xs (y + 1)) (cq_segKind hv (xs (y + 1))) (hc_idx _ _)
    refine zl_bd e4 ?_
    refine zl_rd1 hy hL ?_
    refine zl_bd e2 ?_
    refine zl_bd e3 ?_
    exact zl_tail ho (hK v m' o' A hv r2 hk)
  refine zl_ite (fun _ => ?_) (fun _ => ?_)
  · obtain ⟨m', e2, r2⟩ := mq_guess hm hk
    exact zl_bd (cq_guess hv) (zl_bd e2 (zl_eq rfl (hK v m' o A hv r2 hk)))
  refine zl_ite (fun _ => ?_) (fun _ => ?_)
  · obtain ⟨m', e2, r2⟩ := mq_doubt hm hk
    exact zl_bd (cq_doubt hv) (zl_bd e2 (zl_eq rfl (hK v m' o A hv r2 hk)))
  refine zl_ite (fun _ => ?_) (fun _ => ?_)
  · obtain ⟨m', e2, r2⟩ := mq_bells hm hk
    exact zl_bd (cq_bells hv) (zl_bd e2 (zl_eq rfl (hK v m' o A hv r2 hk)))
  refine zl_ite (fun _ => ?_) (fun _ => ?_)
  · obtain ⟨m', e2, r2⟩ := mq_quest hm hk
    exact zl_bd (cq_quest hv) (zl_bd e2 (zl_eq rfl (hK v m' o A hv r2 hk)))
  refine zl_ite (fun _ => ?_) (fun _ => ?_)
  · obtain ⟨m', e2, r2⟩ := mq_rshift hm hk
    exact zl_bd (cq_rshift hv) (zl_bd e2 (zl_eq rfl (hK v m' o A hv r2 hk)))
  refine zl_ite (fun _ => ?_) (fun _ => ?_)
  · obtain ⟨m', e2, r2⟩ := mq_wrong hm hk
    exact zl_bd (cq_wrong hv) (zl_bd e2 (zl_eq rfl (hK v m' o A hv r2 hk)))
  refine zl_ite (fun _ => ?_) (fun _ => ?_)
  · obtain ⟨m', e2, r2⟩ := mq_plaus hm hk
    refine zl_bd (cq_plaus hv) (zl_bd e2 ?_)
    exact zl_if (zpla_eq hk) (hK v m' o A hv r2 hk)
  refine zl_ite (fun _ => ?_) (fun _ => ?_)
  · refine zl_rd1 hy hL ?_
    refine zl_rd2 hy hL ?_
    obtain ⟨m', e2, e3, r2⟩ := mq_dwt hm hk (xs (y + 1)) (xs (y + 2))
    obtain ⟨o', e4, ho⟩ := zh_doubtfulWith o (xs (y + 1)) (xs (y + 2)) (cq_dwt hv hk (xs (y + 1)) (xs (y + 2))) (hc_dwt A _ _)
    refine zl_bd e4 ?_
    refine zl_rd1 hy hL ?_
    refine zl_rd2 hy hL ?_
    refine zl_bd e2 ?_
    refine zl_bd e3 ?_
    exact zl_tail ho (hK v m' o' A hv r2 hk)
  refine zl_ite (fun _ => ?_) (fun _ => ?_)
  · obtain ⟨m', e2, r2⟩ := mq_best hm hk
    exact zl_bd (cq_best hv hk) (zl_bd e2 (zl_eq rfl (hK v m' o A hv r2 hk)))
  refine zl_ite (fun _ => ?_) (fun _ => ?_)
  · obtain ⟨v', e1, r1⟩ := ck_und hv hk
    obtain ⟨m', e2, e3, r2⟩ := mk_und hm hk
    obtain ⟨o', e4, ho⟩ := zh_undo o  e1 (hc_und A)
    refine zl_bd e4 ?_
    refine zl_bd e2 ?_
    refine zl_bd e3 ?_
    exact zl_tail ho (hK v' m' o' _ r1 r2 (ok_und hk))
  refine zl_ite (fun _ => ?_) (fun _ => ?_)
  · obtain ⟨m', e2, r2⟩ := mq_saved hm
    exact zl_bd (cq_saved hv) (zl_bd e2 (zl_eq rfl (hK v m' o A hv r2 hk)))
  refine zl_ite (fun _ => ?_) (fun _ => ?_)
  · obtain ⟨m', e2, r2⟩ := mq_dig hm hk
    refine zl_bd (cq_dig hv hk) (zl_bd e2 ?_)
    exact zl_if (zl_cmp _) (hK v m' o A hv r2 hk)
  exact hK v m o A hv hm hk
theorem zl_loop {xs : Nat → Int32} {Ls : Nat} (hL : Ls ≤ 1536) : ∀ (n y : Nat) (v : zTR) (m : zModel) (o : Nat → Int64) (A : zAb), y ≤ Ls → Ls < y + 3 * n → zcR v A → zmR m A → zok A → zf_L_law_L23 10000 xs Ls n (nI y) v m o = some 1
  | 0, y, v, m, o, A, h1, h2, hv, hm, hk => absurd h2 (by omega)
  | n + 1, y, v, m, o, A, h1, h2, hv, hm, hk => by
    by_cases h3 : Ls < y + 3
    · unfold zf_L_law_L23
      rw [if_pos ((zl_g hL (by omega)).mpr h3)]
    · refine zl_step hL (by omega) o hv hm hk (fun v' m' o' A' r1 r2 r3 => ?_)
      unfold zf_L_law_b1289
      rw [zlet_eq, show nI y + 3 = nI (y + 3) from nI_add y 3]
      exact zl_loop hL n (y + 3) v' m' o' A' (by omega) (by omega) r1 r2 r3
/-- the state at the start -/
def zS0 : zNow := ([], [], [], List.replicate 200 (-1), [], 0, 0)
theorem zS0_ok : zokS zS0 := by
  refine ⟨Nat.zero_le _, Nat.le_refl _, Nat.le_refl _, fun c hc => absurd hc List.not_mem_nil, List.length_replicate, fun f hf => Or.inl (List.eq_of_mem_replicate hf), Nat.zero_le _, fun w hw => absurd hw List.not_mem_nil, List.nodup_nil, Or.inl rfl, Or.inl rfl⟩
theorem zA0_ok : zok ([], zS0, []) :=
  ⟨fun c hc => absurd hc List.not_mem_nil, Nat.zero_le _, zS0_ok, Nat.zero_le _, fun S hS => absurd hS List.not_mem_nil, List.pairwise_singleton _ _⟩
theorem zr_nil {N : Nat} (hN : N < 2 ^ 30) (f : Nat → Int32) : zr N (f, 0) [] := ⟨hN, Nat.zero_le _, nI_0.symm, fun i hi => absurd hi (Nat.not_lt_zero _)⟩
theorem zA0_c {r : zRow} (hr : zr 200 r (List.replicate 200 (-1))) : zcR (zTR0 r) ([], zS0, []) :=
  ⟨zr_nil (by omega) _, ⟨⟨zr_nil (by omega) _, zr_nil (by omega) _, zr_nil (by omega) _, hr, rfl, rfl⟩, zr_nil (by omega) _⟩, ⟨zr_nil (by omega) _, zr_nil (by omega) _, zr_nil (by omega) _, zr_nil (by omega) _, rfl, zr_nil (by omega) _⟩, nI_0.symm, Nat.zero_le _, fun i S hS => absurd hS (by simp)⟩
theorem zA0_m : zmR zM0 ([], zS0, []) := by
  have nil : ∀ c o : Nat, zml (fun _ => 0) c o [] := fun c o => ⟨nI_0.symm, fun i hi => absurd hi (Nat.not_lt_zero _)⟩
  refine ⟨⟨nil 0 1, nil 201 202, nil 402 403, rfl, rfl, fun i hi => ?_, nI_0.symm, fun i w hw => absurd hw (by rw [show zS0.2.2.2.2.1 = [] from rfl]; simp)⟩, nI_0.symm, fun i S hS => absurd hS (by simp), nI_0.symm, fun i hi => absurd hi (Nat.not_lt_zero _)⟩
  show (0 : Int32) = (List.replicate 200 (-1)).getD i 0 + 1
  rw [List.getD_eq_getElem?_getD, List.getElem?_replicate, if_pos hi]
  decide
/-- what the machine's part asks for -/
theorem zl_all (xs : Nat → Int32) {L : Nat} (hL : L ≤ 1536) : ∃ r, zf_X5_fill 10000 200 ((fun _ => 0), 0) 200 (-1) = some r ∧ zf_L_law_L23 10000 xs L 600 0 (zTR0 r) zM0 (fun _ => 0) = some 1 := by
  obtain ⟨r, e, g⟩ := zp_fill (fu := 10000) (N := 200) (k := 200) (x := -1) (zr_nil (by omega) (fun _ => 0)) (Nat.le_refl _) (by omega)
  refine ⟨r, e, ?_⟩
  have := zl_loop (xs := xs) hL 600 0 (zTR0 r) zM0 (fun _ => 0) ([], zS0, []) (Nat.zero_le _) (by omega) (zA0_c g) zA0_m zA0_ok
  rw [nI_0] at this
  exact this
end ZLX
