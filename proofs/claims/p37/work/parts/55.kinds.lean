/-! ===== the pure part: kinds ===== -/
section ZKV
theorem zkd_v0 : ∀ p q : Bool, (∃ k : Nat, k < 6 ∧ (if p = true then (0 : Int32) else if q = true then 1 + 2 else 0 + 4) = nI k) ∧ (∃ k : Nat, k < 6 ∧ (if p = true then (1 : Int32) else if q = true then 0 + 2 else 1 + 4) = nI k)
  | true, true => ⟨⟨0, by omega, by decide⟩, ⟨1, by omega, by decide⟩⟩
  | true, false => ⟨⟨0, by omega, by decide⟩, ⟨1, by omega, by decide⟩⟩
  | false, true => ⟨⟨3, by omega, by decide⟩, ⟨2, by omega, by decide⟩⟩
  | false, false => ⟨⟨4, by omega, by decide⟩, ⟨5, by omega, by decide⟩⟩
theorem zkd_val (ws seg : List Int32) {s : Int32} (hs : zbit s) : ∃ k : Nat, k < 6 ∧ zkd ws seg s = nI k := by
  unfold zkd
  rcases hs with rfl | rfl
  · simp only [↓reduceIte]
    exact (zkd_v0 _ _).1
  · simp only [if_neg z10]
    exact (zkd_v0 _ _).2
theorem znI_n1 {y : Nat} (h : y < 2 ^ 31) : ¬ (-1 : Int32) = nI y := fun e => by
  have := nI_pos' h
  rw [← e] at this
  exact absurd this (by decide)
end ZKV
