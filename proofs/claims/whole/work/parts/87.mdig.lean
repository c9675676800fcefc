/-! ===== the pure part: the model's digest ===== -/
section ZMDG
theorem zm_d320 {v0 m : zModel} {A : zAb} (h : zmR m A) (hk : zok A) (q : zmQ A.2.1.2.2.2.2.1 A.2.1.2.1 m (zPn A.2.1)) : ∀ (d i n : Nat) (y : Int64), i + d = A.2.1.2.2.2.2.1.length → d < n → zf_X8_digest_L320 10000 v0 n y (nI i) m.1 m.2.1 m.2.2.1 m.2.2.2.1 m.2.2.2.2.1 m.2.2.2.2.2.1 m.2.2.2.2.2.2.1 m.2.2.2.2.2.2.2.1 m.2.2.2.2.2.2.2.2.1 m.2.2.2.2.2.2.2.2.2.1 m.2.2.2.2.2.2.2.2.2.2.1 m.2.2.2.2.2.2.2.2.2.2.2.1 m.2.2.2.2.2.2.2.2.2.2.2.2.1 m.2.2.2.2.2.2.2.2.2.2.2.2.2.1 m.2.2.2.2.2.2.2.2.2.2.2.2.2.2.1 m.2.2.2.2.2.2.2.2.2.2.2.2.2.2.2.1 m.2.2.2.2.2.2.2.2.2.2.2.2.2.2.2.2 = some (zdgW A.2.1.2.2.2.2.1 (zPn A.2.1).2.2.2.1 d i y, m)
  | d, i, 0, y, _, hn => absurd hn (Nat.not_lt_zero _)
  | 0, i, n + 1, y, hd, hn => by
    have h20 := hk.2.2.1.2.2.2.2.2.2.1
    unfold zf_X8_digest_L320
    rw [zlet_eq, h.1.2.2.2.2.2.2.1, if_pos (nI_le (by omega) (by omega))]
    rfl
  | d + 1, i, n + 1, y, hd, hn => by
    have h20 := hk.2.2.1.2.2.2.2.2.2.1
    have hi : i < A.2.1.2.2.2.2.1.length := by omega
    have hwi : A.2.1.2.2.2.2.1[i]? = some (A.2.1.2.2.2.2.1.getD i []) := by rw [List.getD_eq_getElem?_getD, List.getElem?_eq_getElem hi]; rfl
    have h806 := (h.1.2.2.2.2.2.2.2 i _ hwi).1
    unfold zf_X8_digest_L320
    rw [zlet_eq, h.1.2.2.2.2.2.2.1, if_neg (nI_ge hi (by omega)), zlet_eq, show (806 : Int32) + nI i = nI (806 + i) from nI_add 806 _, if_neg (nI_in (by omega) (by omega)), zlet_eq, nI_clamp (by omega), h806, zlet_eq, show zf_X8_usesOf 10000 (m.1, m.2.1, m.2.2.1, m.2.2.2.1, m.2.2.2.2.1, m.2.2.2.2.2.1, m.2.2.2.2.2.2.1, m.2.2.2.2.2.2.2.1, m.2.2.2.2.2.2.2.2.1, m.2.2.2.2.2.2.2.2.2.1, m.2.2.2.2.2.2.2.2.2.2.1, m.2.2.2.2.2.2.2.2.2.2.2.1, m.2.2.2.2.2.2.2.2.2.2.2.2.1, m.2.2.2.2.2.2.2.2.2.2.2.2.2.1, m.2.2.2.2.2.2.2.2.2.2.2.2.2.2.1, m.2.2.2.2.2.2.2.2.2.2.2.2.2.2.2.1, m.2.2.2.2.2.2.2.2.2.2.2.2.2.2.2.2) (nI i) = some (nI ((zPn A.2.1).2.2.2.1.count (nI i))) from zm_us h hk q hi, Option.bind_some, zlet_eq, zlet_eq, nI_1]
    exact zm_d320 h hk q d (i + 1) n _ (by omega) (by omega)
theorem zm_d272 {v0 m : zModel} {A : zAb} (h : zmR m A) (hk : zok A) (q : zmQ A.2.1.2.2.2.2.1 A.2.1.2.1 m (zPn A.2.1)) : ∀ (d i n : Nat) (y : Int64), i + d = (zPn A.2.1).2.2.1.length → d < n → zf_X8_digest_L272 10000 v0 n y (nI i) m.1 m.2.1 m.2.2.1 m.2.2.2.1 m.2.2.2.2.1 m.2.2.2.2.2.1 m.2.2.2.2.2.2.1 m.2.2.2.2.2.2.2.1 m.2.2.2.2.2.2.2.2.1 m.2.2.2.2.2.2.2.2.2.1 m.2.2.2.2.2.2.2.2.2.2.1 m.2.2.2.2.2.2.2.2.2.2.2.1 m.2.2.2.2.2.2.2.2.2.2.2.2.1 m.2.2.2.2.2.2.2.2.2.2.2.2.2.1 m.2.2.2.2.2.2.2.2.2.2.2.2.2.2.1 m.2.2.2.2.2.2.2.2.2.2.2.2.2.2.2.1 m.2.2.2.2.2.2.2.2.2.2.2.2.2.2.2.2 = some (zdgW A.2.1.2.2.2.2.1 (zPn A.2.1).2.2.2.1 A.2.1.2.2.2.2.1.length 0 (zdgS (zPn A.2.1).2.1 (zPn A.2.1).2.2.1 d i y), m)
  | d, i, 0, y, _, hn => absurd hn (Nat.not_lt_zero _)
  | 0, i, n + 1, y, hd, hn => by
    have h20 := hk.2.2.1.2.2.2.2.2.2.1
    have hl := (zPn_le hk).2.2.1
    unfold zf_X8_digest_L272
    rw [q.2.2.1.1, if_pos (nI_le (by omega) (by omega)), ← q.2.2.1.1]
    have := zm_d320 (v0 := v0) h hk q A.2.1.2.2.2.2.1.length 0 10000 y (by omega) (by omega)
    rw [nI_0] at this
    exact this
  | d + 1, i, n + 1, y, hd, hn => by
    have hl := (zPn_le hk).2.2.1
    have hi : i < (zPn A.2.1).2.2.1.length := by omega
    have h4 := q.2.2.2.1
    unfold zf_X8_digest_L272
    rw [if_neg (show ¬ m.2.2.2.2.2.2.2.2.2.2.2.1 ≤ nI i by rw [q.2.2.1.1]; exact nI_ge hi (by omega)), if_neg (nI_in (by omega) (by omega)), zlet_eq, zlet_eq, if_neg (nI_in (by omega) (by omega)), zlet_eq, zlet_eq, zlet_eq, nI_clamp (by omega), zfl_at q.2.1 (by omega), zfl_at q.2.2.1 hi, nI_1]
    exact zm_d272 h hk q d (i + 1) n _ (by omega) (by omega)
theorem zm_d239 {v0 m : zModel} {A : zAb} (h : zmR m A) (hk : zok A) (q : zmQ A.2.1.2.2.2.2.1 A.2.1.2.1 m (zPn A.2.1)) : ∀ (d i n : Nat) (y : Int64), i + d = (zPn A.2.1).1.length → d < n → zf_X8_digest_L239 10000 v0 n y (nI i) m.1 m.2.1 m.2.2.1 m.2.2.2.1 m.2.2.2.2.1 m.2.2.2.2.2.1 m.2.2.2.2.2.2.1 m.2.2.2.2.2.2.2.1 m.2.2.2.2.2.2.2.2.1 m.2.2.2.2.2.2.2.2.2.1 m.2.2.2.2.2.2.2.2.2.2.1 m.2.2.2.2.2.2.2.2.2.2.2.1 m.2.2.2.2.2.2.2.2.2.2.2.2.1 m.2.2.2.2.2.2.2.2.2.2.2.2.2.1 m.2.2.2.2.2.2.2.2.2.2.2.2.2.2.1 m.2.2.2.2.2.2.2.2.2.2.2.2.2.2.2.1 m.2.2.2.2.2.2.2.2.2.2.2.2.2.2.2.2 = some (zdgW A.2.1.2.2.2.2.1 (zPn A.2.1).2.2.2.1 A.2.1.2.2.2.2.1.length 0 (zdgS (zPn A.2.1).2.1 (zPn A.2.1).2.2.1 (zPn A.2.1).2.2.1.length 0 (zhash ((zPn A.2.1).1.drop i) y)), m)
  | d, i, 0, y, _, hn => absurd hn (Nat.not_lt_zero _)
  | 0, i, n + 1, y, hd, hn => by
    have hl := zPn_le hk
    have hl1 := hl.1
    have hl3 := hl.2.2.1
    unfold zf_X8_digest_L239
    rw [if_pos (show m.2.2.2.2.2.2.2.1 ≤ nI i by rw [q.1.1]; exact nI_le (by omega) (by omega)), List.drop_of_length_le (by omega)]
    have := zm_d272 (v0 := v0) h hk q (zPn A.2.1).2.2.1.length 0 10000 y (by omega) (by omega)
    rw [nI_0] at this
    exact this
  | d + 1, i, n + 1, y, hd, hn => by
    have hl1 := (zPn_le hk).1
    have hi : i < (zPn A.2.1).1.length := by omega
    unfold zf_X8_digest_L239
    rw [if_neg (show ¬ m.2.2.2.2.2.2.2.1 ≤ nI i by rw [q.1.1]; exact nI_ge hi (by omega)), if_neg (nI_in (by omega) (by omega)), zlet_eq, zlet_eq, zlet_eq, nI_clamp (by omega), zfl_at q.1 hi, nI_1, zm_d239 h hk q d (i + 1) n _ (by omega) (by omega), List.drop_eq_getElem_cons hi, List.getD_eq_getElem?_getD, List.getElem?_eq_getElem hi]
    rfl
theorem zm_d198 {v0 m : zModel} {A : zAb} (h : zmR m A) (hk : zok A) (q : zmQ A.2.1.2.2.2.2.1 A.2.1.2.1 m (zPn A.2.1)) : ∀ (d i n : Nat) (y : Int64), i + d = A.2.1.2.1.length → d < n → zf_X8_digest_L198 10000 v0 n y (nI i) m.1 m.2.1 m.2.2.1 m.2.2.2.1 m.2.2.2.2.1 m.2.2.2.2.2.1 m.2.2.2.2.2.2.1 m.2.2.2.2.2.2.2.1 m.2.2.2.2.2.2.2.2.1 m.2.2.2.2.2.2.2.2.2.1 m.2.2.2.2.2.2.2.2.2.2.1 m.2.2.2.2.2.2.2.2.2.2.2.1 m.2.2.2.2.2.2.2.2.2.2.2.2.1 m.2.2.2.2.2.2.2.2.2.2.2.2.2.1 m.2.2.2.2.2.2.2.2.2.2.2.2.2.2.1 m.2.2.2.2.2.2.2.2.2.2.2.2.2.2.2.1 m.2.2.2.2.2.2.2.2.2.2.2.2.2.2.2.2 = some (zdgW A.2.1.2.2.2.2.1 (zPn A.2.1).2.2.2.1 A.2.1.2.2.2.2.1.length 0 (zdgS (zPn A.2.1).2.1 (zPn A.2.1).2.2.1 (zPn A.2.1).2.2.1.length 0 (zhash (zPn A.2.1).1 (zhash (A.2.1.2.1.drop i) y))), m)
  | d, i, 0, y, _, hn => absurd hn (Nat.not_lt_zero _)
  | 0, i, n + 1, y, hd, hn => by
    have o3 := hk.2.2.1
    have h200 : A.2.1.2.1.length ≤ 200 := Nat.le_trans o3.2.1 o3.1
    have hl1 := (zPn_le hk).1
    unfold zf_X8_digest_L198
    rw [zlet_eq, h.1.2.1.1, if_pos (nI_le (by omega) (by omega)), List.drop_of_length_le (by omega)]
    have := zm_d239 (v0 := v0) h hk q (zPn A.2.1).1.length 0 10000 y (by omega) (by omega)
    rw [nI_0, List.drop_zero] at this
    exact this
  | d + 1, i, n + 1, y, hd, hn => by
    have o3 := hk.2.2.1
    have h200 : A.2.1.2.1.length ≤ 200 := Nat.le_trans o3.2.1 o3.1
    have hi : i < A.2.1.2.1.length := by omega
    have hx : m.1 (202 + i) = A.2.1.2.1[i] := by
      have := h.1.2.1.2 i hi
      rw [List.getElem?_eq_getElem hi] at this
      exact (Option.some.inj this).symm
    unfold zf_X8_digest_L198
    rw [zlet_eq, h.1.2.1.1, if_neg (nI_ge hi (by omega)), zlet_eq, show (202 : Int32) + nI i = nI (202 + i) from nI_add 202 _, if_neg (nI_in (by omega) (by omega)), zlet_eq, zlet_eq, zlet_eq, nI_clamp (by omega), hx, nI_1, zm_d198 h hk q d (i + 1) n _ (by omega) (by omega), List.drop_eq_getElem_cons hi]
    rfl
theorem zm_flt {m : zModel} {A : zAb} (h : zmR m A) (hk : zok A) : zf_X8_faulty 10000 m = some (200 - nI (A.2.1.2.2.2.1.count (-1))) := by
  have hl := hk.2.2.1.2.2.2.2.1
  have hc : A.2.1.2.2.2.1.count (-1) ≤ 200 := by rw [← hl]; exact List.count_le_length
  have e := zu_L h hk 200 0 10000 0 (by omega) (by omega)
  rw [nI_0, List.drop_zero, Nat.zero_add] at e
  have hsub : (200 : Int32) - nI (A.2.1.2.2.2.1.count (-1)) = nI (200 - A.2.1.2.2.2.1.count (-1)) := by
    have := nI_subL (A.2.1.2.2.2.1.count (-1)) (200 - A.2.1.2.2.2.1.count (-1))
    rw [Nat.add_sub_cancel' hc] at this
    exact this
  unfold zf_X8_faulty
  rw [hsub]
  exact e
theorem zdg_fold (a1 a2 a3 a4 a5 a6 a7 a8 a9 a10 a11 a12 a13 a14 : Int32) : [a1, a2, a3, a4, a5, a6, a7, a8, a9, a10, a11, a12, a13, a14].foldl zst31 8139 = 31 * (31 * (31 * (31 * (31 * (31 * (31 * (31 * (31 * (31 * (31 * (31 * (31 * (252309 + a1.toInt64) + a2.toInt64) + a3.toInt64) + a4.toInt64) + a5.toInt64) + a6.toInt64) + a7.toInt64) + a8.toInt64) + a9.toInt64) + a10.toInt64) + a11.toInt64) + a12.toInt64) + a13.toInt64) + a14.toInt64 := by
  simp only [List.foldl_cons, List.foldl_nil, zst31]
  rw [show (31 : Int64) * 8139 = 252309 by decide]
theorem zb_let {α β : Type} {x : α} {k : α → Option β} {r : Option β} (h : k x = r) : zlet x k = r := h
theorem zb_bd {α β : Type} {x : Option α} {a : α} {F : α → Option β} {r : Option β} (h : x = some a) (g : F a = r) : x.bind F = r := by rw [h]; exact g
theorem zdg_eq (A : zAb) : aDig A = zdgW A.2.1.2.2.2.2.1 (zPn A.2.1).2.2.2.1 A.2.1.2.2.2.2.1.length 0 (zdgS (zPn A.2.1).2.1 (zPn A.2.1).2.2.1 (zPn A.2.1).2.2.1.length 0 (zhash (zPn A.2.1).1 (zhash A.2.1.2.1 (31 * (31 * (31 * (31 * (31 * (31 * (31 * (31 * (31 * (31 * (31 * (31 * (31 * (252309 + (nI A.2.1.1.length).toInt64) + (nI A.2.1.2.1.length).toInt64) + (A.2.1.2.2.2.2.2.1).toInt64) + (200 - nI (A.2.1.2.2.2.1.count (-1))).toInt64) + (nI A.2.1.2.2.2.2.1.length).toInt64) + (nI (zPn A.2.1).1.length).toInt64) + (nI (zPn A.2.1).2.2.1.length).toInt64) + (nI ((zPn A.2.1).2.2.1.count 2 + (zPn A.2.1).2.2.1.count 3)).toInt64) + (nI (zdbs A.2.1)).toInt64) + ((zPn A.2.1).2.2.2.2.2.1).toInt64) + ((zPn A.2.1).2.2.2.2.2.2).toInt64) + ((zPn A.2.1).2.2.2.2.1).toInt64) + (nI (zwrong (zPn A.2.1).1 A.2.1.2.2.1)).toInt64) + (aBest A).toInt64)))) := by
  unfold aDig
  rw [zdg_fold]
theorem mq_dig {m : zModel} {A : zAb} (h : zmR m A) (hk : zok A) : ∃ m', zf_X8_digest 10000 m = some (aDig A, m') ∧ zmR m' A := by
  have o3 := hk.2.2.1
  have h200 : A.2.1.2.1.length ≤ 200 := Nat.le_trans o3.2.1 o3.1
  obtain ⟨m1, e1, f1⟩ := zm_rep (m := zthr m 0) h hk
  have h1 := zmR_fr (m := zthr m 0) h f1
  obtain ⟨m2, e2, q, s, f2⟩ := zm_dec0 h1 hk
  have h2 := zmR_fr h1 f2
  have hl := (zPn_le hk).2.2.1
  have hT := zm_d198 (v0 := m) h2 hk q A.2.1.2.1.length 0 10000
  rw [nI_0, List.drop_zero] at hT
  refine ⟨m2, ?_, h2⟩
  unfold zf_X8_digest
  refine zb_bd (show zf_X8_repair 10000 (m.1, m.2.1, m.2.2.1, m.2.2.2.1, m.2.2.2.2.1, 0, m.2.2.2.2.2.2) = some (aBest A, m1) from e1) ?_
  refine zb_bd e2 ?_
  refine zb_let ?_
  refine zb_let ?_
  refine zb_let ?_
  refine zb_let ?_
  refine zb_let ?_
  refine zb_let ?_
  refine zb_bd (zm_flt h2 hk) ?_
  refine zb_let ?_
  refine zb_let ?_
  refine zb_let ?_
  refine zb_let ?_
  refine zb_let ?_
  refine zb_bd (zm_wb2 q hl) ?_
  refine zb_let ?_
  refine zb_bd (zm_wb4 q (show (zPn A.2.1).2.2.1.length ≤ 201 by omega)) ?_
  refine zb_let ?_
  refine zb_let ?_
  refine zb_let ?_
  refine zb_let ?_
  refine zb_bd (zm_wr h2 hk q) ?_
  refine zb_let ?_
  refine zb_let ?_
  refine (hT _ (by omega) (by omega)).trans ?_
  rw [h2.1.1.1, h2.1.2.1.1, h2.1.2.2.2.1, h2.1.2.2.2.2.2.2.1, q.1.1, q.2.2.1.1, q.2.2.2.2.2.1, q.2.2.2.2.2.2.1, s, zdg_eq]
  rfl
end ZMDG
