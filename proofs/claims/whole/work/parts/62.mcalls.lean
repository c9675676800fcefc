/-! ===== the pure part: the model's calls ===== -/
section ZO
/-- the model with what it has thrown -/
def zthr (m : zModel) (a : Int32) : zModel := (m.1, m.2.1, m.2.2.1, m.2.2.2.1, m.2.2.2.2.1, a, m.2.2.2.2.2.2)
theorem zmR_thr {m : zModel} {A : zAb} (h : zmR m A) (a : Int32) : zmR (zthr m a) A := h
theorem zm_no {m : zModel} : zf_X8_refused 10000 m 0 = some (0, zthr m 0) := by
  unfold zf_X8_refused
  rw [if_pos (show (0 : Int32) ≤ 0 by decide)]
  rfl
theorem zm_yes {m : zModel} {a : Int32} (h : ¬ a ≤ 0) : zf_X8_refused 10000 m a = some (1, zthr m a) := by
  unfold zf_X8_refused
  rw [if_neg h]
  rfl
theorem mk_app {m : zModel} {A : zAb} (h : zmR m A) (hk : zok A) (c : Int32) : ∃ m', zf_X8_append 10000 m c = some ((aApp A c).2.1, m') ∧ zf_X8_thrown 10000 m' = some (aApp A c).1 ∧ zmR m' (aApp A c).2.2 := by
  have h0 := h
  obtain ⟨h1, h2, h3, h4, h5⟩ := h
  have h60 := hk.2.1
  unfold zf_X8_append aApp zf_X8_append_b26
  rw [zcode_m, Option.bind_some]
  by_cases hc : zcode c = -1
  · rw [if_pos hc, if_pos rfl, if_pos hc]
    rw [show ((m.1, m.2.1, m.2.2.1, m.2.2.2.1, m.2.2.2.2.1, m.2.2.2.2.2.1, m.2.2.2.2.2.2.1, m.2.2.2.2.2.2.2.1, m.2.2.2.2.2.2.2.2.1, m.2.2.2.2.2.2.2.2.2.1, m.2.2.2.2.2.2.2.2.2.2.1, m.2.2.2.2.2.2.2.2.2.2.2.1, m.2.2.2.2.2.2.2.2.2.2.2.2.1, m.2.2.2.2.2.2.2.2.2.2.2.2.2.1, m.2.2.2.2.2.2.2.2.2.2.2.2.2.2.1, m.2.2.2.2.2.2.2.2.2.2.2.2.2.2.2.1, m.2.2.2.2.2.2.2.2.2.2.2.2.2.2.2.2) : zModel) = m from rfl, zm_yes (by decide), Option.bind_some, if_neg z10]
    exact ⟨_, rfl, rfl, h0⟩
  · have hz : ¬ zcode c = 0 := by
      rcases zcode_r c with e | ⟨j, hj, hj0, e⟩
      · exact absurd e hc
      · rw [e]; exact nI_ne0 hj0 (by omega)
    rw [if_neg hc, if_neg hz, if_neg hc, h4]
    by_cases hl : A.1.length < 60
    · have hne : ¬ nI A.1.length = 60 := fun e => by
        have := (nI_eq (b := 60) (by omega) (by omega)).mp e
        omega
      rw [if_neg hne, if_pos hl]
      rw [show ((m.1, m.2.1, m.2.2.1, m.2.2.2.1, nI A.1.length, m.2.2.2.2.2.1, m.2.2.2.2.2.2.1, m.2.2.2.2.2.2.2.1, m.2.2.2.2.2.2.2.2.1, m.2.2.2.2.2.2.2.2.2.1, m.2.2.2.2.2.2.2.2.2.2.1, m.2.2.2.2.2.2.2.2.2.2.2.1, m.2.2.2.2.2.2.2.2.2.2.2.2.1, m.2.2.2.2.2.2.2.2.2.2.2.2.2.1, m.2.2.2.2.2.2.2.2.2.2.2.2.2.2.1, m.2.2.2.2.2.2.2.2.2.2.2.2.2.2.2.1, m.2.2.2.2.2.2.2.2.2.2.2.2.2.2.2.2) : zModel) = m from by rw [← h4], zm_no, Option.bind_some, if_pos rfl]
      rw [show (zthr m 0).2.2.2.2.1 = nI A.1.length from h4]
      rw [if_neg (nI_in (by omega) (by omega)), zlet_eq, zlet_eq, nI_1, nI_clamp (by omega)]
      refine ⟨_, rfl, rfl, h1, h2, h3, by show nI (A.1.length + 1) = nI (A.1 ++ [c]).length; rw [List.length_append]; rfl, fun i hi => ?_⟩
      have hi : i < (A.1 ++ [c]).length := hi
      rw [List.length_append] at hi
      simp only [List.length_cons, List.length_nil] at hi
      show (A.1 ++ [c])[i]? = some (upd m.2.2.2.1 A.1.length c i)
      unfold upd
      by_cases e : i = A.1.length
      · rw [if_pos e, e]; simp
      · rw [if_neg e, List.getElem?_append_left (by omega)]
        exact h5 i (by omega)
    · rw [if_pos (show nI A.1.length = 60 by rw [show A.1.length = 60 by omega]; decide), if_neg hl]
      rw [show ((m.1, m.2.1, m.2.2.1, m.2.2.2.1, nI A.1.length, m.2.2.2.2.2.1, m.2.2.2.2.2.2.1, m.2.2.2.2.2.2.2.1, m.2.2.2.2.2.2.2.2.1, m.2.2.2.2.2.2.2.2.2.1, m.2.2.2.2.2.2.2.2.2.2.1, m.2.2.2.2.2.2.2.2.2.2.2.1, m.2.2.2.2.2.2.2.2.2.2.2.2.1, m.2.2.2.2.2.2.2.2.2.2.2.2.2.1, m.2.2.2.2.2.2.2.2.2.2.2.2.2.2.1, m.2.2.2.2.2.2.2.2.2.2.2.2.2.2.2.1, m.2.2.2.2.2.2.2.2.2.2.2.2.2.2.2.2) : zModel) = m from by rw [← h4], zm_yes (by decide), Option.bind_some, if_neg z10]
      exact ⟨_, rfl, rfl, h0⟩
theorem mk_clr {m : zModel} {A : zAb} (h : zmR m A) : ∃ m', zf_X8_clearBuffer 10000 m = some ((aClr A).1, m') ∧ zmR m' (aClr A).2 := by
  obtain ⟨h1, h2, h3, h4, h5⟩ := h
  unfold zf_X8_clearBuffer
  rw [h4]
  exact ⟨_, rfl, h1, h2, h3, nI_0.symm, fun i hi => absurd hi (Nat.not_lt_zero _)⟩
end ZO
