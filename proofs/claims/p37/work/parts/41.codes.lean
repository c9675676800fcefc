/-! ===== the pure part: characters, codes, shifts (the fuel is 10000 from here on) ===== -/
section ZC
theorem zi_cases (a : Int32) (n : Nat) (hn : n < 2 ^ 31) : a < 0 ∨ nI n < a ∨ ∃ k : Nat, k < n + 1 ∧ a = nI k := by
  by_cases h : a < 0
  · exact Or.inl h
  · obtain ⟨j, hj, rfl⟩ := nI_of h
    by_cases h2 : j < n + 1
    · exact Or.inr (Or.inr ⟨j, h2, rfl⟩)
    · exact Or.inr (Or.inl (nI_lt (by omega) hj))
/-- the code of a character, or -1 -/
def zcode (a : Int32) : Int32 := (zf_X0_codeOf 10000 a).getD (-1)
theorem zcode_fin : ∀ k : Nat, k < 128 → zf_X0_codeOf 10000 (nI k) = some (zcode (nI k)) ∧ True ∧ (zcode (nI k) = -1 ∨ ∃ j : Nat, j < 30 ∧ 0 < j ∧ zcode (nI k) = nI j) := by decide +kernel
theorem zlt_trans {a b c : Int32} (h1 : a < b) (h2 : b < c) : a < c := by
  rw [Int32.lt_iff_toInt_lt] at *
  omega
theorem zsgn_neg {a : Int32} {c : Int32} (hc : 0 ≤ c ∧ c ≤ 127) (ha : a < 0 ∨ 127 < a) : ¬ c = a := by
  intro e
  subst e
  rw [Int32.le_iff_toInt_le, Int32.le_iff_toInt_le, Int32.lt_iff_toInt_lt, Int32.lt_iff_toInt_lt] at *
  omega
theorem zcode_out {a : Int32} (ha : a < 0 ∨ 127 < a) : zf_X0_codeOf 10000 a = some (-1) ∧ True := by
  have hne : ∀ c : Int32, 0 ≤ c ∧ c ≤ 127 → ¬ a = c := fun c hc e => zsgn_neg hc ha e.symm
  have hL : zf_X0_isLetter 10000 a = some 0 := by
    unfold zf_X0_isLetter
    rcases ha with ha | ha
    · rw [if_pos (zlt_trans ha (by decide))]
    · rw [if_neg (Int32.not_lt.mpr (Int32.le_of_lt (zlt_trans (by decide) ha))), if_pos (zlt_trans (by decide) ha)]
  refine ⟨?_, ?_⟩
  · unfold zf_X0_codeOf
    rw [hL, Option.bind_some, if_pos rfl, if_neg (hne 32 (by decide)), if_neg (hne 10 (by decide)), if_neg (hne 64 (by decide)), if_neg (hne 35 (by decide))]
    unfold zf_X0_codeOfFigure
    rcases ha with ha | ha
    · rw [if_pos ha]; rfl
    · rw [if_neg (Int32.not_lt.mpr (Int32.le_of_lt (zlt_trans (by decide) ha))), if_neg (Int32.not_le.mpr ha)]; rfl
  · exact trivial
theorem zcode_c (a : Int32) : zf_X0_codeOf 10000 a = some (zcode a) := by
  rcases zi_cases a 127 (by omega) with h | h | ⟨k, hk, rfl⟩
  · unfold zcode; rw [(zcode_out (Or.inl h)).1]; rfl
  · unfold zcode; rw [(zcode_out (Or.inr (show (127 : Int32) < a from h))).1]; rfl
  · exact (zcode_fin k (by omega)).1
theorem zcode_r (a : Int32) : zcode a = -1 ∨ ∃ j : Nat, j < 30 ∧ 0 < j ∧ zcode a = nI j := by
  have key : (a < 0 ∨ (127 : Int32) < a) → zcode a = -1 := by
    intro h; unfold zcode; rw [(zcode_out h).1]; rfl
  rcases zi_cases a 127 (by omega) with h | h | ⟨k, hk, rfl⟩
  · exact Or.inl (key (Or.inl h))
  · exact Or.inl (key (Or.inr h))
  · exact (zcode_fin k (by omega)).2.2
/-- the shift that a character needs, or -1 -/
def zsft (a : Int32) : Int32 := if a = 32 then -1 else if a = 10 then -1 else if 97 ≤ a ∧ a ≤ 122 then 0 else if a = 64 then 0 else 1
theorem zsft_c (a : Int32) : zf_X0_shiftFor 10000 a = some (zsft a) := by
  unfold zf_X0_shiftFor zsft zf_X0_isLetter zf_X0_shiftFor_b27
  by_cases h1 : a = 32
  · rw [if_pos h1, if_pos h1]
  rw [if_neg h1, if_neg h1]
  by_cases h2 : a = 10
  · rw [if_pos h2, if_pos h2]
  rw [if_neg h2, if_neg h2]
  by_cases h3 : a < 97
  · rw [if_pos h3, Option.bind_some, if_pos rfl, if_neg (show ¬ (97 ≤ a ∧ a ≤ 122) from fun h => Int32.not_lt.mpr h.1 h3)]
    by_cases h4 : a = 64
    · rw [if_pos h4, if_pos h4]
    · rw [if_neg h4, if_neg h4]
  · rw [if_neg h3]
    by_cases h5 : 122 < a
    · rw [if_pos h5, Option.bind_some, if_pos rfl, if_neg (show ¬ (97 ≤ a ∧ a ≤ 122) from fun h => Int32.not_le.mpr h5 h.2)]
      by_cases h4 : a = 64
      · rw [if_pos h4, if_pos h4]
      · rw [if_neg h4, if_neg h4]
    · rw [if_neg h5, Option.bind_some, if_neg z10, if_pos ⟨Int32.not_lt.mp h3, Int32.not_lt.mp h5⟩]
theorem zsft_r (a : Int32) : zsft a = -1 ∨ zsft a = 0 ∨ zsft a = 1 := by
  unfold zsft
  split
  · exact Or.inl rfl
  split
  · exact Or.inl rfl
  split
  · exact Or.inr (Or.inl rfl)
  split
  · exact Or.inr (Or.inl rfl)
  · exact Or.inr (Or.inr rfl)
/-- a sign is a code of 1 to 26 -/
def zsg (c : Int32) : Bool := decide (1 ≤ c) && decide (c ≤ 26)
theorem zsg_c (c : Int32) : zf_X0_isSign 10000 c = some (if zsg c then 1 else 0) := by
  unfold zf_X0_isSign zsg
  by_cases h1 : c < 1
  · rw [if_pos h1, decide_eq_false (Int32.not_le.mpr h1)]; rfl
  · rw [if_neg h1, decide_eq_true (Int32.not_lt.mp h1)]
    by_cases h2 : 26 < c
    · rw [if_pos h2, decide_eq_false (Int32.not_le.mpr h2)]; rfl
    · rw [if_neg h2, decide_eq_true (Int32.not_lt.mp h2)]; rfl
/-- the character that a code prints in a shift, or -1 -/
def zchr (c s : Int32) : Int32 := (zf_X0_characterOf 10000 c s).getD (-1)
theorem zchr_fin : ∀ k : Nat, k < 32 → ∀ s : Nat, s < 2 → zf_X0_characterOf 10000 (nI k) (nI s) = some (zchr (nI k) (nI s)) ∧ True ∧ (zsg (nI k) = false → zchr (nI k) (nI s) = if k = 27 then 32 else if k = 28 then 10 else -1) := by decide +kernel
/-- the shift behind a code -/
def zbeh (c s u : Int32) : Int32 := if c = 30 then 1 else if c = 31 then 0 else if u = 0 then s else if c = 27 then 0 else s
theorem zbeh_c (c s u : Int32) : zf_X0_shiftBehind 10000 c s u = some (zbeh c s u) := by
  unfold zf_X0_shiftBehind zbeh
  split
  · rfl
  split
  · rfl
  split
  · rfl
  split <;> rfl
end ZC
