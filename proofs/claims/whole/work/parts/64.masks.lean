/-! ===== the pure part: simple answers of the model ===== -/
section ZS
theorem mq_sent {m : zModel} {A : zAb} (h : zmR m A) : ∃ m', zf_X8_sent 10000 m = some (nI A.2.1.1.length, m') ∧ zmR m' A := by
  unfold zf_X8_sent
  rw [zlet_eq, h.1.1.1]
  exact ⟨_, rfl, h⟩
theorem mq_recv {m : zModel} {A : zAb} (h : zmR m A) : ∃ m', zf_X8_received 10000 m = some (nI A.2.1.2.1.length, m') ∧ zmR m' A := by
  unfold zf_X8_received
  rw [zlet_eq, h.1.2.1.1]
  exact ⟨_, rfl, h⟩
theorem mq_shift {m : zModel} {A : zAb} (h : zmR m A) : ∃ m', zf_X8_senderShift 10000 m = some (A.2.1.2.2.2.2.2.1, m') ∧ zmR m' A := by
  unfold zf_X8_senderShift
  rw [zlet_eq, h.1.2.2.2.1]
  exact ⟨_, rfl, h⟩
/-- between 0 and n - 1 -/
theorem zm_in (a : Int32) {n : Nat} (hn : n < 2 ^ 30) : (zin a n = none ∧ zf_X8_in 10000 a 0 (nI n - 1) = some 0) ∨ ∃ i : Nat, i < n ∧ a = nI i ∧ zin a n = some i ∧ zf_X8_in 10000 a 0 (nI n - 1) = some 1 := by
  unfold zf_X8_in
  rcases zin_cases a hn with ⟨e, h1 | ⟨i, h1, h2, rfl⟩⟩ | ⟨i, h1, rfl, e⟩
  · rw [if_pos h1]
    exact Or.inl ⟨e, rfl⟩
  · rw [if_neg (nI_pos h2)]
    cases n with
    | zero =>
      rw [if_pos (show nI 0 - 1 < nI i from by
        rw [Int32.lt_iff_toInt_lt, nI_toInt h2]
        have : (nI 0 - 1).toInt = -1 := by decide
        omega)]
      exact Or.inl ⟨e, rfl⟩
    | succ n =>
      rw [nI_pred, if_pos (nI_lt (by omega) h2)]
      exact Or.inl ⟨e, rfl⟩
  · rw [if_neg (nI_pos (by omega))]
    cases n with
    | zero => exact absurd h1 (Nat.not_lt_zero _)
    | succ n =>
      rw [nI_pred, if_neg (nI_nlt (by omega) (by omega))]
      exact Or.inr ⟨i, h1, rfl, e, rfl⟩
end ZS
section ZS2
theorem mq_sentCode {m : zModel} {A : zAb} (h : zmR m A) (hk : zok A) (a : Int32) : ∃ m', zf_X8_sentCode 10000 m a = some ((zidx a A.2.1.1).2, m') ∧ zf_X8_thrown 10000 m' = some (zidx a A.2.1.1).1 ∧ zmR m' A := by
  have l1 := hk.2.2.1.1
  unfold zf_X8_sentCode zf_X8_sentCode_b22 zidx
  rw [zlet_eq, h.1.1.1]
  rcases zm_in a (n := A.2.1.1.length) (by omega) with ⟨e, e1⟩ | ⟨i, hi, rfl, e, e1⟩
  · rw [e1, Option.bind_some, if_pos rfl, e]
    rw [show ((m.1, m.2.1, m.2.2.1, m.2.2.2.1, m.2.2.2.2.1, m.2.2.2.2.2.1, m.2.2.2.2.2.2.1, m.2.2.2.2.2.2.2.1, m.2.2.2.2.2.2.2.2.1, m.2.2.2.2.2.2.2.2.2.1, m.2.2.2.2.2.2.2.2.2.2.1, m.2.2.2.2.2.2.2.2.2.2.2.1, m.2.2.2.2.2.2.2.2.2.2.2.2.1, m.2.2.2.2.2.2.2.2.2.2.2.2.2.1, m.2.2.2.2.2.2.2.2.2.2.2.2.2.2.1, m.2.2.2.2.2.2.2.2.2.2.2.2.2.2.2.1, m.2.2.2.2.2.2.2.2.2.2.2.2.2.2.2.2) : zModel) = m from rfl, zm_yes (by decide), Option.bind_some, if_neg z10]
    exact ⟨_, rfl, rfl, h⟩
  · rw [e1, Option.bind_some, if_neg z10, e]
    rw [show ((m.1, m.2.1, m.2.2.1, m.2.2.2.1, m.2.2.2.2.1, m.2.2.2.2.2.1, m.2.2.2.2.2.2.1, m.2.2.2.2.2.2.2.1, m.2.2.2.2.2.2.2.2.1, m.2.2.2.2.2.2.2.2.2.1, m.2.2.2.2.2.2.2.2.2.2.1, m.2.2.2.2.2.2.2.2.2.2.2.1, m.2.2.2.2.2.2.2.2.2.2.2.2.1, m.2.2.2.2.2.2.2.2.2.2.2.2.2.1, m.2.2.2.2.2.2.2.2.2.2.2.2.2.2.1, m.2.2.2.2.2.2.2.2.2.2.2.2.2.2.2.1, m.2.2.2.2.2.2.2.2.2.2.2.2.2.2.2.2) : zModel) = m from rfl, zm_no, Option.bind_some, if_pos rfl, zlet_eq, show (1 : Int32) + nI i = nI (1 + i) from nI_add 1 i, if_neg (nI_in (by omega) (by omega)), zlet_eq, nI_clamp (by omega)]
    have hx := h.1.1.2 i hi
    rw [zgetD hi] at hx
    refine ⟨zthr m 0, ?_, rfl, h⟩
    show some (m.1 (1 + i), zthr m 0) = some (A.2.1.1.getD i 0, zthr m 0)
    rw [← Option.some.inj hx]
theorem mq_recvCode {m : zModel} {A : zAb} (h : zmR m A) (hk : zok A) (a : Int32) : ∃ m', zf_X8_receivedCode 10000 m a = some ((zidx a A.2.1.2.1).2, m') ∧ zf_X8_thrown 10000 m' = some (zidx a A.2.1.2.1).1 ∧ zmR m' A := by
  have l0 := hk.2.2.1.1
  have l1 := hk.2.2.1.2.1
  unfold zf_X8_receivedCode zf_X8_receivedCode_b24 zidx
  rw [zlet_eq, h.1.2.1.1]
  rcases zm_in a (n := A.2.1.2.1.length) (by omega) with ⟨e, e1⟩ | ⟨i, hi, rfl, e, e1⟩
  · rw [e1, Option.bind_some, if_pos rfl, e]
    rw [show ((m.1, m.2.1, m.2.2.1, m.2.2.2.1, m.2.2.2.2.1, m.2.2.2.2.2.1, m.2.2.2.2.2.2.1, m.2.2.2.2.2.2.2.1, m.2.2.2.2.2.2.2.2.1, m.2.2.2.2.2.2.2.2.2.1, m.2.2.2.2.2.2.2.2.2.2.1, m.2.2.2.2.2.2.2.2.2.2.2.1, m.2.2.2.2.2.2.2.2.2.2.2.2.1, m.2.2.2.2.2.2.2.2.2.2.2.2.2.1, m.2.2.2.2.2.2.2.2.2.2.2.2.2.2.1, m.2.2.2.2.2.2.2.2.2.2.2.2.2.2.2.1, m.2.2.2.2.2.2.2.2.2.2.2.2.2.2.2.2) : zModel) = m from rfl, zm_yes (by decide), Option.bind_some, if_neg z10]
    exact ⟨_, rfl, rfl, h⟩
  · rw [e1, Option.bind_some, if_neg z10, e]
    rw [show ((m.1, m.2.1, m.2.2.1, m.2.2.2.1, m.2.2.2.2.1, m.2.2.2.2.2.1, m.2.2.2.2.2.2.1, m.2.2.2.2.2.2.2.1, m.2.2.2.2.2.2.2.2.1, m.2.2.2.2.2.2.2.2.2.1, m.2.2.2.2.2.2.2.2.2.2.1, m.2.2.2.2.2.2.2.2.2.2.2.1, m.2.2.2.2.2.2.2.2.2.2.2.2.1, m.2.2.2.2.2.2.2.2.2.2.2.2.2.1, m.2.2.2.2.2.2.2.2.2.2.2.2.2.2.1, m.2.2.2.2.2.2.2.2.2.2.2.2.2.2.2.1, m.2.2.2.2.2.2.2.2.2.2.2.2.2.2.2.2) : zModel) = m from rfl, zm_no, Option.bind_some, if_pos rfl, zlet_eq, show (202 : Int32) + nI i = nI (202 + i) from nI_add 202 i, if_neg (nI_in (by omega) (by omega)), zlet_eq, nI_clamp (by omega)]
    have hx := h.1.2.1.2 i hi
    rw [zgetD hi] at hx
    refine ⟨zthr m 0, ?_, rfl, h⟩
    show some (m.1 (202 + i), zthr m 0) = some (A.2.1.2.1.getD i 0, zthr m 0)
    rw [← Option.some.inj hx]
end ZS2
