/-! ===== the pure part: the model's count of codes ===== -/
section ZR
theorem zsp_27 {c : Int32} : zcode c = 27 ↔ c = 32 := by
  have key : (c < 0 ∨ (127 : Int32) < c) → (zcode c = 27 ↔ c = 32) := by
    intro h
    have e : zcode c = -1 := by unfold zcode; rw [(zcode_out h).1]; rfl
    rw [e]
    refine ⟨fun h => absurd h (by decide), fun h2 => ?_⟩
    subst h2
    exact absurd h (by decide)
  rcases zi_cases c 127 (by omega) with h | h | ⟨k, hk, rfl⟩
  · exact key (Or.inl h)
  · exact key (Or.inr h)
  · have : ∀ k : Nat, k < 128 → (zcode (nI k) = 27 ↔ nI k = 32) := by decide +kernel
    exact this k (by omega)
theorem zcode_30 (c : Int32) : ¬ zcode c = 30 ∧ ¬ zcode c = 31 := by
  rcases zcode_r c with e | ⟨j, hj, -, e⟩
  · rw [e]; decide
  · rw [e]
    exact ⟨fun h => by have := (nI_eq (b := 30) (by omega) (by omega)).mp h; omega, fun h => by have := (nI_eq (b := 31) (by omega) (by omega)).mp h; omega⟩
/-- the shift behind a character's code -/
theorem zbeh_ch (c s : Int32) {u : Int32} (hu : zbit u) : zbeh (zcode c) s u = if c = 32 ∧ u = 1 then 0 else s := by
  obtain ⟨h1, h2⟩ := zcode_30 c
  unfold zbeh
  rw [if_neg h1, if_neg h2]
  rcases hu with rfl | rfl
  · rw [if_pos rfl, if_neg (fun h => absurd h.2 (by decide))]
  · rw [if_neg z10]
    by_cases e : c = 32
    · rw [if_pos (zsp_27.mpr e), if_pos ⟨e, rfl⟩]
    · rw [if_neg (fun h => e (zsp_27.mp h)), if_neg (fun h => e h.1)]
end ZR
