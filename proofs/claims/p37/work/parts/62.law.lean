/-! ===== the pure part: the law ===== -/
section ZLL
theorem zl_cmp (x : Int64) : lg_cmp x x = 0 := by
  unfold lg_cmp
  rw [if_neg (Int64.lt_irrefl (a := x)), if_pos rfl]
theorem aDig_T {A B : zAb} (h : A.2 = B.2) : aDig A = aDig B := by
  obtain ⟨a, T⟩ := A
  obtain ⟨b, T2⟩ := B
  have h : T = T2 := h
  subst h
  rfl
theorem zl_cell (xs : Nat → Int32) (Ls : Nat) (hL : Ls < 2 ^ 31) {k : Nat} (hk : k < 2 ^ 30) : ∃ j : Nat, j < 2 ^ 31 ∧ zf_L_cell xs Ls (nI k) = some (nI j) := by
  have hm : (2147483647 : Int32).toBitVec.toNat = 2 ^ 31 - 1 := by decide
  unfold zf_L_cell
  by_cases h : nI Ls ≤ nI k
  · rw [if_pos h]
    obtain ⟨j, h1, h2⟩ := pk_andE ((52361 : Int32) * (nI k + 3) + 19) (m := 2147483647) 31 hm
    exact ⟨j, h1, by rw [h2]⟩
  · rw [if_neg h, if_neg (nI_in (by
      rw [nI_leI hL (by omega)] at h
      omega) (by omega))]
    obtain ⟨j, h1, h2⟩ := pk_andE (xs (nI k).toNatClampNeg) (m := 2147483647) 31 hm
    exact ⟨j, h1, by rw [h2]⟩
theorem zl_mod : ∀ k : Nat, k < 30 → (nI k - nI k / 3 * 3 = nI (k % 3)) ∧ (nI k - nI k / 2 * 2 = nI (k % 2)) := by decide +kernel
theorem zl_b268 {T : zNow × List zNow} {xs : Nat → Int32} {Ls : Nat} {v w : zTR} {A : zAb} (hA : A.2 = T) (hv : zcR v A) (hk : zok A) : zf_L_law_b268 10000 250 31 xs Ls (aDig A) 1 v w = some 1 := by
  obtain ⟨b0, T2⟩ := A
  have hA : T2 = T := hA
  subst hA
  obtain ⟨v1, e1, g1, k1⟩ := zD_clr (b0, T2) v hv hk
  have s2 := zr_s42 T2 zl_49.2.2
  obtain ⟨v2, e2, g2, k2⟩ := zD_app ([], T2) 97 v1 g1 k1
  rw [s2, zhr_0] at e2
  rw [s2] at g2 k2
  obtain ⟨v3, e3, g3, k3⟩ := zD_clr ([97], T2) v2 g2 k2
  have ed := cq_dig g2 k2
  rw [aDig_T (A := ([97], T2)) (B := (b0, T2)) rfl] at ed
  have h60 : b0.length ≤ 60 := hk.2.1
  unfold zf_L_law_b268
  refine zh_nf z10 ?_
  refine zh_bd e1 (zh_nf (nI_pos (by show b0.length < _; omega)) ?_)
  refine zh_bd e2 (zh_if (show nI 1 = 1 by decide) ?_)
  refine zh_bd ed (zh_if (zl_cmp _) ?_)
  exact zh_bd e3 (zh_if (show nI ([97] : List Int32).length = 1 by decide) rfl)
theorem zSetU_id (S : zNow) : zSetU S S.2.2.2.2.2.2 = S := rfl
theorem zl_b182 {xs : Nat → Int32} {Ls : Nat} {v w : zTR} {A B : zAb} (hv : zcR v A) (hk : zok A) (hw : zcR w B) (hj : zok B) (hAB : A.2 = B.2) : zf_L_law_b182 10000 250 31 xs Ls 1 v w = some 1 := by
  obtain ⟨a, S, H⟩ := A
  obtain ⟨b, S2, H2⟩ := B
  have hS : S = S2 := congrArg Prod.fst hAB
  have hH : H = H2 := congrArg Prod.snd hAB
  subst hS
  subst hH
  have hun : zbit S.2.2.2.2.2.2 := hk.2.2.1.un
  have h6 : H.length ≤ 6 := hk.2.2.2.1
  obtain ⟨v1, e1, g1, k1⟩ := zD_uns (a, S, H) (u := 1) (Or.inr rfl) v hv hk
  have hh := zh_hangs g1 k1
  obtain ⟨v2, e2, g2, k2⟩ := zD_und (aUns (a, S, H) 1).2 v1 g1 k1
  have su : aUnd (aUns (a, S, H) 1).2 = (0, nI (if H.length = 6 then H.drop 1 else H).length, (a, S, if H.length = 6 then H.drop 1 else H)) := aUnd_s rfl
  rw [su, zhr_0] at e2
  rw [su] at g2 k2
  obtain ⟨w1, f1, i1, l1⟩ := zD_uns (b, S, H) (u := S.2.2.2.2.2.2) hun w hw hj
  have ed2 := cq_dig g2 k2
  rw [show aDig (a, S, if H.length = 6 then H.drop 1 else H) = aDig (a, S, H) from rfl] at ed2
  have ed3 := cq_dig i1 l1
  rw [show aDig (aUns (b, S, H) S.2.2.2.2.2.2).2 = aDig (a, S, H) from rfl] at ed3
  have h268 : zf_L_law_b268 10000 250 31 xs Ls (aDig (a, S, H)) 1 v2 w1 = some 1 := by
    have := zl_b268 (xs := xs) (Ls := Ls) (w := w1) rfl g2 k2
    rw [show aDig (a, S, if H.length = 6 then H.drop 1 else H) = aDig (a, S, H) from rfl] at this
    exact this
  have h229 : ∀ z : Int32, nI (if H.length = 6 then H.drop 1 else H).length = z → zf_L_law_b229 10000 250 31 xs Ls (aDig (a, S, H)) S.2.2.2.2.2.2 (nI (if H.length = 6 then H.drop 1 else H).length) z v2 w = some 1 := by
    intro z hz
    unfold zf_L_law_b229
    refine zh_if hz ?_
    refine zh_bd ed2 (zh_if (zl_cmp _) ?_)
    refine zh_bd f1 (zh_if rfl ?_)
    exact zh_bd ed3 (zh_if (zl_cmp _) h268)
  unfold zf_L_law_b182
  refine zh_bd (cq_dig hv hk) ?_
  refine zh_bd (cq_saved hv) ?_
  refine zh_bd e1 (zh_nf z10 ?_)
  refine zh_bd hh (zh_nf z10 ?_)
  refine zh_bd e2 ?_
  by_cases h : H.length = 6
  · refine zh_if (show nI H.length = 6 from by rw [h]; decide) ?_
    refine h229 5 ?_
    rw [if_pos h, List.length_drop, h]
    decide
  · refine zh_nf (show ¬ nI H.length = 6 from fun e => h ((nI_eq (b := 6) (by omega) (by omega)).mp e)) ?_
    refine h229 _ ?_
    rw [if_neg h]
theorem zl_b111 {xs : Nat → Int32} {Ls : Nat} {rec65 : Int32 → Int32 → zTR → zTR → Option Int32} {k j : Nat} (hk30 : k < 30) {v w w' : zTR} {r : Int32} {A B : zAb} (hv : zcR v A) (hk : zok A) (e : zf_L_acts 10000 250 w (nI j) = some (r, w')) (hw : zcR w' B) (hj : zok B) (hAB : A.2 = B.2) (hrec : rec65 1 (nI (k + 1)) v w' = some 1) : zf_L_law_b111 10000 250 31 xs Ls rec65 (nI k) (nI j) r v w = some 1 := by
  obtain ⟨m3, m2⟩ := zl_mod k hk30
  have h170 : zf_L_law_b170 10000 250 31 xs Ls rec65 (nI k) v w' = some 1 := by
    unfold zf_L_law_b170 zf_L_law_b175
    rw [zlet_eq, nI_1]
    exact hrec
  have ed := cq_dig hw hj
  rw [← aDig_T hAB] at ed
  have es := cq_saved hw
  rw [← show A.2.2 = B.2.2 from congrArg Prod.snd hAB] at es
  unfold zf_L_law_b111
  refine zh_bd e (zh_if rfl ?_)
  refine zh_bd (cq_saved hv) (zh_bd es (zh_if rfl ?_))
  refine zh_bd (cq_dig hv hk) (zh_bd ed (zh_if (zl_cmp _) ?_))
  rw [m3, m2]
  split
  · exact h170
  · split
    · exact zh_bd (zh_hangs hv hk) (zh_nf z10 h170)
    · exact zh_bd (zh_hangs hw hj) (zh_nf z10 h170)
theorem zl_loop {xs : Nat → Int32} {Ls : Nat} (hL : Ls < 2 ^ 31) : ∀ (d k n : Nat) (v w : zTR) (A B : zAb), k + d = 30 → d < n → zcR v A → zok A → zcR w B → zok B → A.2 = B.2 → zf_L_law_L65 10000 250 31 xs Ls n 1 (nI k) v w = some 1
  | d, k, 0, v, w, A, B, hd, hn, hv, hk, hw, hj, hAB => absurd hn (Nat.not_lt_zero _)
  | 0, k, n + 1, v, w, A, B, hd, hn, hv, hk, hw, hj, hAB => by
    unfold zf_L_law_L65
    refine zh_if (show (30 : Int32) ≤ nI k from nI_le (a := 30) (by omega) (by omega)) ?_
    exact zl_b182 hv hk hw hj hAB
  | d + 1, k, n + 1, v, w, A, B, hd, hn, hv, hk, hw, hj, hAB => by
    obtain ⟨j, hj31, ec⟩ := zl_cell xs Ls hL (k := k) (by omega)
    obtain ⟨r, T', ha⟩ := zE_acts A.2 hj31
    obtain ⟨v', A', e1, g1, k1, t1⟩ := ha v A rfl hv hk
    obtain ⟨m3, m2⟩ := zl_mod k (by omega)
    unfold zf_L_law_L65
    refine zh_nf (show ¬ (30 : Int32) ≤ nI k from nI_ge (b := 30) (by omega) (by omega)) (zh_nf z10 ?_)
    refine zh_bd ec (zh_bd e1 ?_)
    rw [m3]
    split
    · obtain ⟨w', B', e2, g2, k2, t2⟩ := ha w B hAB.symm hw hj
      exact zl_b111 (by omega) g1 k1 e2 g2 k2 (t1.trans t2.symm) (zl_loop hL d (k + 1) n v' w' A' B' (by omega) (by omega) g1 k1 g2 k2 (t1.trans t2.symm))
    · have hm : nI j - nI j / 100000 * 100000 = nI (j % 100000) := by
        rw [show (100000 : Int32) = nI 100000 from by decide, pk_rem hj31 (by omega) (by omega)]
      obtain ⟨w1, e3, g3, k3⟩ := zl_refuses B.2 (j := j % 100000) (Nat.mod_lt _ (by omega)) w B rfl hw hj
      obtain ⟨w', B', e2, g2, k2, t2⟩ := ha w1 ([], B.2) hAB.symm g3 k3
      rw [hm]
      refine zh_bd e3 (zh_nf z10 ?_)
      exact zl_b111 (by omega) g1 k1 e2 g2 k2 (t1.trans t2.symm) (zl_loop hL d (k + 1) n v' w' A' B' (by omega) (by omega) g1 k1 g2 k2 (t1.trans t2.symm))
/-- the state at the start -/
def zS0 : zNow := ([], [], [], List.replicate 200 (-1), [], 0, 0)
theorem zS0_ok : zokS zS0 := by
  refine ⟨Nat.zero_le _, Nat.le_refl _, Nat.le_refl _, fun c hc => absurd hc List.not_mem_nil, List.length_replicate, fun f hf => Or.inl (List.eq_of_mem_replicate hf), Nat.zero_le _, fun w hw => absurd hw List.not_mem_nil, List.nodup_nil, Or.inl rfl, Or.inl rfl⟩
theorem zA0_ok : zok ([], zS0, []) :=
  ⟨fun c hc => absurd hc List.not_mem_nil, Nat.zero_le _, zS0_ok, Nat.zero_le _, fun S hS => absurd hS List.not_mem_nil, List.pairwise_singleton _ _⟩
theorem zr_nil {N : Nat} (hN : N < 2 ^ 30) (f : Nat → Int32) : zr N (f, 0) [] := ⟨hN, Nat.zero_le _, nI_0.symm, fun i hi => absurd hi (Nat.not_lt_zero _)⟩
theorem zA0_c {r : zRow} (hr : zr 200 r (List.replicate 200 (-1))) : zcR (zTR0 r) ([], zS0, []) :=
  ⟨zr_nil (by omega) _, ⟨⟨zr_nil (by omega) _, zr_nil (by omega) _, zr_nil (by omega) _, hr, rfl, rfl⟩, zr_nil (by omega) _⟩, ⟨zr_nil (by omega) _, zr_nil (by omega) _, zr_nil (by omega) _, zr_nil (by omega) _, rfl, zr_nil (by omega) _⟩, nI_0.symm, Nat.zero_le _, fun i S hS => absurd hS (by simp)⟩
theorem zA0_best : aBest ([], zS0, []) = -1 := by
  rcases aBest_v ([], zS0, []) with e | ⟨j, h1, h2, -⟩
  · exact e
  · obtain rfl : j = 0 := Nat.le_zero.mp h1
    have := zcut_n (zS0.2.2.2.2.1.map zpk) []
    rw [show zcut (zS0.2.2.2.2.1.map zpk) [] ([] : List Int32).length = -1 from h2] at this
    exact absurd this (by decide)
theorem zA0_pla : zpla zS0 = FP.dconst1 := if_pos rfl
theorem zl_b16 {xs : Nat → Int32} {Ls : Nat} (hL : Ls < 2 ^ 31) {v w : zTR} (hv : zcR v ([], zS0, [])) (hw : zcR w ([], zS0, [])) : zf_L_law_b16 10000 250 31 xs Ls v w = some 1 := by
  have hk := zA0_ok
  obtain ⟨v1, e1, g1, -⟩ := zD_und ([], zS0, []) v hv hk
  have su : aUnd ([], zS0, []) = (1, 0, ([], zS0, [])) := aUnd_n rfl
  rw [su, zhr_1] at e1
  rw [su] at g1
  obtain ⟨v2, e2, g2⟩ := ck_need g1
  have e3 : zf_X7_plausibility 10000 v2 = some FP.dconst1 := (cq_plaus g2).trans (by rw [zA0_pla])
  have e4 := cq_best g2 hk
  unfold zf_L_law_b16
  refine zh_bd e1 (zh_if rfl ?_)
  refine zh_bd e2 (zh_if (show nI ([] : List Int32).length = 0 from nI_0) ?_)
  refine zh_bd e3 (zh_if zpl_1 ?_)
  refine zh_bd e4 (zh_if zA0_best ?_)
  refine zh_bd (zh_hangs g2 hk) (zh_nf z10 ?_)
  unfold zf_L_law_b61
  have := zl_loop (xs := xs) hL 30 0 31 v2 w ([], zS0, []) ([], zS0, []) rfl (by omega) g2 hk hw hk rfl
  rw [nI_0] at this
  exact this
/-- what the machine's part asks for -/
theorem zl_all (xs : Nat → Int32) {L : Nat} (hL : L ≤ 260) : ∃ r, zf_X5_fill 10000 200 ((fun _ => 0), 0) 200 (-1) = some r ∧ zf_L_law_b16 10000 250 31 xs L (zTR0 r) (zTR0 r) = some 1 := by
  obtain ⟨r, e, g⟩ := zp_fill (fu := 10000) (N := 200) (k := 200) (x := -1) (zr_nil (by omega) (fun _ => 0)) (Nat.le_refl _) (by omega)
  exact ⟨r, e, zl_b16 (by omega) (zA0_c g) (zA0_c g)⟩
end ZLL
