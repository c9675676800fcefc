/-! ===== the pure part: a word's letters, the class forgets ===== -/
section ZF
theorem zw_ex {e m : Nat} {sh : Int32} (hsh : sh.toBitVec.smod 32 = BitVec.ofNat 32 e) (he : e < 32) (hm : m < 2 ^ 31) : (nI m >>> sh) &&& 31 = nI (m / 2 ^ e % 32) := by
  have hmsb : (BitVec.ofNat 32 m).msb = false := by
    rw [BitVec.msb_eq_decide, BitVec.toNat_ofNat, Nat.mod_eq_of_lt (show m < 2 ^ 32 by omega)]
    exact decide_eq_false (by omega)
  have h32 : m / 2 ^ e % 32 < 32 := Nat.mod_lt _ (by omega)
  rw [← Int32.toBitVec_inj, Int32.toBitVec_and, Int32.toBitVec_shiftRight, hsh, nI_bv, nI_bv]
  show (BitVec.ofNat 32 m).sshiftRight (BitVec.ofNat 32 e).toNat &&& _ = _
  rw [BitVec.sshiftRight_eq_of_msb_false hmsb, BitVec.toNat_ofNat, Nat.mod_eq_of_lt (show e < 2 ^ 32 by omega)]
  apply BitVec.eq_of_toNat_eq
  rw [BitVec.toNat_and, BitVec.toNat_ushiftRight, BitVec.toNat_ofNat, BitVec.toNat_ofNat, Nat.mod_eq_of_lt (show m < 2 ^ 32 by omega), Nat.mod_eq_of_lt (show m / 2 ^ e % 32 < 2 ^ 32 by omega), Nat.shiftRight_eq_div_pow]
  exact Nat.and_two_pow_sub_one_eq_mod (m / 2 ^ e) 5
theorem znp_dig : ∀ (l : List Int32) (j : Nat), (∀ c ∈ l, zcd c) → nI (znp l / 2 ^ (5 * j) % 32) = l.getD j 0
  | [], j, _ => by
    show nI (0 / 2 ^ (5 * j) % 32) = _
    rw [Nat.zero_div, Nat.zero_mod]
    simp [nI_0]
  | c :: cs, 0, h => by
    obtain ⟨h1, h2⟩ := zcd_nat (h c List.mem_cons_self)
    show nI ((c.toNatClampNeg + 32 * znp cs) / 2 ^ (5 * 0) % 32) = c
    rw [Nat.mul_zero, Nat.pow_zero, Nat.div_one, show (c.toNatClampNeg + 32 * znp cs) % 32 = c.toNatClampNeg by omega]
    exact h2.symm
  | c :: cs, j + 1, h => by
    obtain ⟨h1, h2⟩ := zcd_nat (h c List.mem_cons_self)
    show nI ((c.toNatClampNeg + 32 * znp cs) / 2 ^ (5 * (j + 1)) % 32) = cs.getD j 0
    rw [show 5 * (j + 1) = 5 + 5 * j by omega, Nat.pow_add, ← Nat.div_div_eq_div_mul, show (c.toNatClampNeg + 32 * znp cs) / 2 ^ 5 = znp cs by omega]
    exact znp_dig cs j (fun x hx => h x (List.mem_cons_of_mem _ hx))
theorem zl_cod {v : zRow} {ws : List (List Int32)} (h : zr 20 v (ws.map zpk)) (hw : ∀ w ∈ ws, zwd w) {i : Nat} {w : List Int32} (hi : ws[i]? = some w) {j : Nat} (hj : j < 6) : zf_X1_codeOfLetter 10000 v (nI i) (nI j) = some (w.getD j 0) := by
  have hwd := hw w (List.mem_of_getElem? hi)
  have hc := fun c hc => (hwd.2.2 c hc).2
  unfold zf_X1_codeOfLetter
  rw [zp_at h (show (ws.map zpk)[i]? = some (zpk w) by rw [List.getElem?_map, hi]; rfl), Option.bind_some, zlet_eq, zpk_np hc hwd.2.1, zw_ex (zw_sh j hj) (by omega) (by have := znp_30 hc hwd.2.1; omega), znp_dig w j hc]
theorem zl_lenL {v : zRow} {ws : List (List Int32)} (h : zr 20 v (ws.map zpk)) (hw : ∀ w ∈ ws, zwd w) {i : Nat} {w : List Int32} (hi : ws[i]? = some w) : ∀ (d j n : Nat), j + d = 6 → d < n → zf_X1_lengthOf_L4 10000 v n (nI i) (nI (min j w.length)) (nI j) = some (nI w.length)
  | d, j, 0, hd, hn => absurd hn (Nat.not_lt_zero _)
  | 0, j, n + 1, hd, hn => by
    have hwd := hw w (List.mem_of_getElem? hi)
    have := hwd.2.1
    unfold zf_X1_lengthOf_L4
    rw [if_pos (show (6 : Int32) ≤ nI j from nI_le (a := 6) (by omega) (by omega)), Nat.min_eq_right (by omega)]
  | d + 1, j, n + 1, hd, hn => by
    have hwd := hw w (List.mem_of_getElem? hi)
    unfold zf_X1_lengthOf_L4 zf_X1_lengthOf_b22
    rw [if_neg (show ¬ (6 : Int32) ≤ nI j from nI_ge (b := 6) (by omega) (by omega)), zl_cod h hw hi (by omega), Option.bind_some]
    by_cases hj : j < w.length
    · have hg := hwd.2.2 w[j] (List.getElem_mem hj)
      have hne : ¬ w.getD j 0 = 0 := by
        rw [List.getD_eq_getElem?_getD, List.getElem?_eq_getElem hj]
        intro e
        have e : w[j] = 0 := e
        rw [e] at hg
        exact absurd hg.1 (by decide)
      rw [if_neg hne, zlet_eq, zlet_eq, nI_1, nI_1, Nat.min_eq_left (by omega)]
      have := zl_lenL h hw hi d (j + 1) n (by omega) (by omega)
      rw [Nat.min_eq_left (by omega)] at this
      exact this
    · rw [if_pos (show w.getD j 0 = 0 by rw [List.getD_eq_getElem?_getD, List.getElem?_eq_none (by omega)]; rfl), zlet_eq, nI_1, Nat.min_eq_right (by omega)]
      have := zl_lenL h hw hi d (j + 1) n (by omega) (by omega)
      rw [Nat.min_eq_right (by omega)] at this
      exact this
theorem zl_len {v : zRow} {ws : List (List Int32)} (h : zr 20 v (ws.map zpk)) (hw : ∀ w ∈ ws, zwd w) {i : Nat} {w : List Int32} (hi : ws[i]? = some w) : zf_X1_lengthOf 10000 v (nI i) = some (nI w.length) := by
  unfold zf_X1_lengthOf
  have := zl_lenL h hw hi 6 0 10000 (by omega) (by omega)
  rw [Nat.zero_min, nI_0] at this
  exact this
/-- forget -/
def zDelW (S : zNow) (i : Nat) : zNow := (S.1, S.2.1, S.2.2.1, S.2.2.2.1, S.2.2.2.2.1.eraseIdx i, S.2.2.2.2.2)
def aFgt (A : zAb) (a : Int32) : Int32 × Int32 × zAb := match zin a A.2.1.2.2.2.2.1.length with
  | none => (1, 0, A)
  | some i => (0, nI (A.2.1.2.2.2.2.1.getD i []).length, (A.1, zDelW A.2.1 i, zHs A.2.2 A.2.1))
theorem aFgt_n {A : zAb} {a : Int32} (h : zin a A.2.1.2.2.2.2.1.length = none) : aFgt A a = (1, 0, A) := by unfold aFgt; rw [h]
theorem aFgt_s {A : zAb} {a : Int32} {i : Nat} (h : zin a A.2.1.2.2.2.2.1.length = some i) : aFgt A a = (0, nI (A.2.1.2.2.2.2.1.getD i []).length, (A.1, zDelW A.2.1 i, zHs A.2.2 A.2.1)) := by unfold aFgt; rw [h]
theorem zokS_del {S : zNow} (o3 : zokS S) (i : Nat) : zokS (zDelW S i) := by
  have hs : (S.2.2.2.2.1.eraseIdx i).Sublist S.2.2.2.2.1 := List.eraseIdx_sublist _ _
  refine ⟨o3.1, o3.2.1, o3.2.2.1, o3.2.2.2.1, o3.2.2.2.2.1, o3.2.2.2.2.2.1, Nat.le_trans hs.length_le o3.2.2.2.2.2.2.1, fun x hx => o3.2.2.2.2.2.2.2.1 x (hs.subset hx), o3.2.2.2.2.2.2.2.2.1.sublist hs, o3.sh, o3.un⟩
theorem ck_fgt {v : zTR} {A : zAb} (h : zcR v A) (hk : zok A) (a : Int32) : ∃ v', zf_X7_forget 10000 v a = some ((aFgt A a).1, (aFgt A a).2.1, v') ∧ zcR v' (aFgt A a).2.2 := by
  have h0 := h
  obtain ⟨h1, h2, h3, h4⟩ := h
  have h22 := h2
  obtain ⟨k0, k7⟩ := h2
  have o3 := hk.2.2.1
  have hw20 := o3.2.2.2.2.2.2.1
  unfold zf_X7_forget
  rcases zp_has (fu := 10000) k7 a with ⟨e, e1⟩ | ⟨i, hi, rfl, e, e1⟩
  · rw [List.length_map] at e
    rw [e1, Option.bind_some, if_pos rfl, aFgt_n e]
    exact ⟨v, rfl, h0⟩
  · rw [List.length_map] at e
    have hi' := hi
    rw [List.length_map] at hi
    obtain ⟨b3, e3, g3⟩ := zh_save h4 h22 o3.un
    obtain ⟨b5, e5, g5⟩ := zp_remove (fu := 10000) k7 hi' (by rw [List.length_map]; omega)
    have hwi : A.2.1.2.2.2.2.1[i]? = some (A.2.1.2.2.2.2.1.getD i []) := by rw [List.getD_eq_getElem?_getD, List.getElem?_eq_getElem hi]; rfl
    have hC : zrC v.2.1 b5 (zDelW A.2.1 i) := ⟨k0, by show zr 20 b5 ((A.2.1.2.2.2.2.1.eraseIdx i).map zpk); rw [List.eraseIdx_eq_take_drop_succ, List.map_append, List.map_take, List.map_drop, ← List.eraseIdx_eq_take_drop_succ]; exact g5⟩
    obtain ⟨b, e6, g6⟩ := zk_anew v.2.2.2.1 hC (zokS_del o3 i)
    rw [e1, Option.bind_some, if_neg z10, e3, Option.bind_some, zl_len k7 o3.2.2.2.2.2.2.2.1 hwi, Option.bind_some, e5, Option.bind_some, e6, Option.bind_some, aFgt_s e]
    exact ⟨_, rfl, h1, hC, g6, g3⟩
theorem ok_fgt {A : zAb} (hk : zok A) (a : Int32) : zok (aFgt A a).2.2 := by
  cases e : zin a A.2.1.2.2.2.2.1.length with
  | none => rw [aFgt_n e]; exact hk
  | some i => rw [aFgt_s e]; exact zok_push hk ⟨hk.1, hk.2.1⟩ (zokS_del hk.2.2.1 i) ⟨List.prefix_refl _, List.prefix_refl _, List.prefix_refl _⟩
end ZF
