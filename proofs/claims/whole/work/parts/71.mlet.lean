/-! ===== the pure part: a word of the model asked ===== -/
section ZMW
theorem zm_isIn {m : zModel} {A : zAb} (h : zmR m A) (hk : zok A) (a : Int32) : (zin a A.2.1.2.2.2.2.1.length = none ∧ zf_X8_isIn 10000 m a = some 0) ∨ ∃ i : Nat, i < A.2.1.2.2.2.2.1.length ∧ a = nI i ∧ zin a A.2.1.2.2.2.2.1.length = some i ∧ zf_X8_isIn 10000 m a = some 1 := by
  have h20 := hk.2.2.1.2.2.2.2.2.2.1
  unfold zf_X8_isIn
  rw [zlet_eq, h.1.2.2.2.2.2.2.1]
  rcases zm_in a (n := A.2.1.2.2.2.2.1.length) (by omega) with ⟨e, e1⟩ | ⟨i, hi, rfl, e, e1⟩
  · rw [e1]
    exact Or.inl ⟨e, rfl⟩
  · rw [e1]
    exact Or.inr ⟨i, hi, rfl, e, rfl⟩
theorem zchr_l {c : Int32} (hc : zcd c) (hg : zsg c = true) : zchr c 0 = 97 + c - 1 := by
  have := zchr_m (s := 0) hc (Or.inl rfl) hg
  unfold zf_X8_characterOf at this
  rw [if_pos rfl, zlet_eq] at this
  exact (Option.some.inj this).symm
theorem zm_letb {m : zModel} (a j z : Int32) : zf_X8_wordLetter_b23 10000 m a j z m.1 m.2.1 m.2.2.1 m.2.2.2.1 m.2.2.2.2.1 m.2.2.2.2.2.1 m.2.2.2.2.2.2.1 m.2.2.2.2.2.2.2.1 m.2.2.2.2.2.2.2.2.1 m.2.2.2.2.2.2.2.2.2.1 m.2.2.2.2.2.2.2.2.2.2.1 m.2.2.2.2.2.2.2.2.2.2.2.1 m.2.2.2.2.2.2.2.2.2.2.2.2.1 m.2.2.2.2.2.2.2.2.2.2.2.2.2.1 m.2.2.2.2.2.2.2.2.2.2.2.2.2.2.1 m.2.2.2.2.2.2.2.2.2.2.2.2.2.2.2.1 m.2.2.2.2.2.2.2.2.2.2.2.2.2.2.2.2 = (zf_X8_refused 10000 m z).bind fun b5 => if b5.1 = 0 then (zlet ((806 : Int32) + a) fun x7 => if x7 < 0 ∨ 946 ≤ x7.toNatClampNeg then none else zlet (b5.2.1 x7.toNatClampNeg) fun x8 => if x8 ≤ j then (some ((-1), b5.2)) else (zlet (((826 : Int32) + ((6 : Int32) * a)) + j) fun x10 => if x10 < 0 ∨ 946 ≤ x10.toNatClampNeg then none else zlet (b5.2.1 x10.toNatClampNeg) fun x11 => zlet (((97 : Int32) + x11) - (1 : Int32)) fun x12 => some (x12, b5.2))) else some (0, b5.2) := rfl
theorem e826 (i j : Nat) : ((826 : Int32) + ((6 : Int32) * nI i)) + nI j = nI (826 + 6 * i + j) := by
  rw [show (6 : Int32) = nI 6 from by decide, show (826 : Int32) = nI 826 from by decide, nI_mul, nI_add, nI_add]
theorem mq_letter {m : zModel} {A : zAb} (h : zmR m A) (hk : zok A) (a j : Int32) : ∃ m', zf_X8_wordLetter 10000 m a j = some ((aLet A a j).2, m') ∧ zf_X8_thrown 10000 m' = some (aLet A a j).1 ∧ zmR m' A := by
  have o3 := hk.2.2.1
  have h20 := o3.2.2.2.2.2.2.1
  unfold zf_X8_wordLetter aLet zf_X8_wordLetter_b22
  rw [zm_letb, zm_letb]
  rcases zm_isIn h hk a with ⟨e, e1⟩ | ⟨i, hi, rfl, e, e1⟩
  · rw [e1, e, Option.bind_some, if_pos rfl, zm_yes (by decide), Option.bind_some, if_neg z10]
    exact ⟨_, rfl, rfl, h⟩
  rw [e1, e, Option.bind_some, if_neg z10]
  rcases zm_in j (n := 6) (by omega) with ⟨f, f1⟩ | ⟨k, hj, rfl, f, f1⟩
  · rw [show zf_X8_in 10000 j 0 5 = some 0 from f1, f, Option.bind_some, if_pos rfl, zm_yes (by decide), Option.bind_some, if_neg z10]
    exact ⟨_, rfl, rfl, h⟩
  · have hwi : A.2.1.2.2.2.2.1[i]? = some (A.2.1.2.2.2.2.1.getD i []) := by rw [List.getD_eq_getElem?_getD, List.getElem?_eq_getElem hi]; rfl
    have hwd := o3.2.2.2.2.2.2.2.1 _ (List.mem_of_getElem? hwi)
    obtain ⟨q1, q2⟩ := h.1.2.2.2.2.2.2.2 i _ hwi
    have q1 : (zthr m 0).1 (806 + i) = nI (A.2.1.2.2.2.2.1.getD i []).length := q1
    have h6 := hwd.2.1
    rw [show zf_X8_in 10000 (nI k) 0 5 = some 1 from f1, f, Option.bind_some, if_neg z10, zm_no, Option.bind_some, if_pos rfl, zlet_eq, show (806 : Int32) + nI i = nI (806 + i) from nI_add 806 _, if_neg (nI_in (by omega) (by omega)), zlet_eq, nI_clamp (by omega), q1]
    by_cases hl : k < (A.2.1.2.2.2.2.1.getD i []).length
    · have hx := q2 k hl
      rw [zgetD hl] at hx
      have hx : (A.2.1.2.2.2.2.1.getD i []).getD k 0 = (zthr m 0).1 (826 + 6 * i + k) := Option.some.inj hx
      have hg := hwd.2.2 _ (List.mem_of_getElem? (zgetD hl))
      have hne : ¬ (A.2.1.2.2.2.2.1.getD i []).getD k 0 = 0 := by
        intro e0
        rw [e0] at hg
        exact absurd hg.1 (by decide)
      rw [if_neg (nI_ge hl (by omega)), zlet_eq, e826, if_neg (nI_in (by omega) (by omega)), zlet_eq, zlet_eq, nI_clamp (by omega), ← hx]
      simp only [if_neg hne]
      rw [zchr_l hg.2 hg.1]
      exact ⟨_, rfl, rfl, h⟩
    · have h0 : (A.2.1.2.2.2.2.1.getD i []).getD k 0 = 0 := by rw [List.getD_eq_getElem?_getD, List.getElem?_eq_none (by omega)]; rfl
      rw [if_pos (nI_le (by omega) (by omega))]
      simp only [if_pos h0]
      exact ⟨_, rfl, rfl, h⟩
end ZMW
