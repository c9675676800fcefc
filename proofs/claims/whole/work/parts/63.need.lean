/-! ===== the pure part: the model's count of codes ===== -/
section ZR
theorem zsp_27 {c : Int32} : zcode c = 27 ↔ c = 32 := by
  have key : (c < 0 ∨ (127 : Int32) < c) → (zcode c = 27 ↔ c = 32) := by
    intro h
    have e : zcode c = -1 := by unfold zcode; rw [(zcode_out h).1]; rfl
    rw [e]
    refine ⟨fun h => absurd h (by decide), fun h2 => ?_⟩
    subst h2
    exact absurd h (by decide)
  rcases zi_cases c 127 (by omega) with h | h | ⟨k, hk, rfl⟩
  · exact key (Or.inl h)
  · exact key (Or.inr h)
  · have : ∀ k : Nat, k < 128 → (zcode (nI k) = 27 ↔ nI k = 32) := by decide +kernel
    exact this k (by omega)
theorem zcode_30 (c : Int32) : ¬ zcode c = 30 ∧ ¬ zcode c = 31 := by
  rcases zcode_r c with e | ⟨j, hj, -, e⟩
  · rw [e]; decide
  · rw [e]
    exact ⟨fun h => by have := (nI_eq (b := 30) (by omega) (by omega)).mp h; omega, fun h => by have := (nI_eq (b := 31) (by omega) (by omega)).mp h; omega⟩
/-- the shift behind a character's code -/
theorem zbeh_ch (c s : Int32) {u : Int32} (hu : zbit u) : zbeh (zcode c) s u = if c = 32 ∧ u = 1 then 0 else s := by
  obtain ⟨h1, h2⟩ := zcode_30 c
  unfold zbeh
  rw [if_neg h1, if_neg h2]
  rcases hu with rfl | rfl
  · rw [if_pos rfl, if_neg (fun h => absurd h.2 (by decide))]
  · rw [if_neg z10]
    by_cases e : c = 32
    · rw [if_pos (zsp_27.mpr e), if_pos ⟨e, rfl⟩]
    · rw [if_neg (fun h => e (zsp_27.mp h)), if_neg (fun h => e h.1)]
theorem zm_b64 {m : zModel} {A : zAb} (h : zmR m A) (hk : zok A) (rec13 : Int32 → Int32 → Int32 → Option Int32) {i : Nat} (hi : i < A.1.length) (y s : Int32) : zf_X8_needed_b64 10000 m rec13 y (nI i) s = rec13 (zbeh (zcode A.1[i]) s A.2.1.2.2.2.2.2.2) y (nI (i + 1)) := by
  have h60 := hk.2.1
  have hx : m.2.2.2.1 i = A.1[i] := by
    have := h.2.2.2.2 i hi
    rw [List.getElem?_eq_getElem hi] at this
    exact (Option.some.inj this).symm
  have h5 := h.1.2.2.2.2.1
  unfold zf_X8_needed_b64 zf_X8_needed_b92 zf_X8_needed_b93
  rw [if_neg (nI_in (by omega) (by omega)), zlet_eq, nI_clamp (by omega), hx, zbeh_ch _ _ hk.2.2.1.un, nI_1, h5]
  by_cases e : A.1[i] = 32
  · rw [if_pos e, zlet_eq]
    by_cases e2 : A.2.1.2.2.2.2.2.2 = 1
    · rw [if_pos e2, zlet_eq, if_pos ⟨e, e2⟩]
    · rw [if_neg e2, zlet_eq, if_neg (fun h => e2 h.2)]
  · rw [if_neg e, zlet_eq, if_neg (fun h => e h.1)]
theorem zm_needL {m : zModel} {A : zAb} (h : zmR m A) (hk : zok A) : ∀ (d i n c : Nat) (s : Int32), i + d = A.1.length → d < n → zf_X8_needed_L13 10000 m n s (nI c) (nI i) = some (nI (c + (zenc A.2.1.2.2.2.2.2.2 s (A.1.drop i)).length))
  | d, i, 0, c, s, _, hn => absurd hn (Nat.not_lt_zero _)
  | 0, i, n + 1, c, s, hd, hn => by
    have h60 := hk.2.1
    unfold zf_X8_needed_L13
    rw [h.2.2.2.1, if_pos (nI_le (by omega) (by omega)), List.drop_of_length_le (by omega)]
    unfold zenc
    rfl
  | d + 1, i, n + 1, c, s, hd, hn => by
    have h60 := hk.2.1
    have hi : i < A.1.length := by omega
    have hx : m.2.2.2.1 i = A.1[i] := by
      have := h.2.2.2.2 i hi
      rw [List.getElem?_eq_getElem hi] at this
      exact (Option.some.inj this).symm
    unfold zf_X8_needed_L13 zf_X8_needed_b49 zf_X8_needed_b50
    rw [h.2.2.2.1, if_neg (nI_ge hi (by omega)), if_neg (nI_in (by omega) (by omega)), zlet_eq, nI_clamp (by omega), hx, zsft_m, Option.bind_some, List.drop_eq_getElem_cons hi]
    unfold zenc
    by_cases e1 : zsft A.1[i] = -1
    · rw [if_pos e1, zlet_eq, if_pos e1, zm_b64 h hk _ hi, nI_1, zm_needL h hk d (i + 1) n (c + 1) _ (by omega) (by omega), if_pos (Or.inl e1), List.length_cons]
      congr 2
      omega
    · rw [if_neg e1]
      by_cases e2 : zsft A.1[i] = s
      · rw [if_pos e2, zlet_eq, if_neg e1, zm_b64 h hk _ hi, nI_1, zm_needL h hk d (i + 1) n (c + 1) _ (by omega) (by omega), if_pos (Or.inr e2), List.length_cons, e2]
        congr 2
        omega
      · rw [if_neg e2, zlet_eq, if_neg e1, zm_b64 h hk _ hi, show nI c + 2 = nI (c + 2) from nI_add c 2, zm_needL h hk d (i + 1) n (c + 2) _ (by omega) (by omega), if_neg (show ¬ (zsft A.1[i] = -1 ∨ zsft A.1[i] = s) from fun h => h.elim e1 e2), List.length_cons, List.length_cons]
        congr 2
        omega
theorem zm_need {m : zModel} {A : zAb} (h : zmR m A) (hk : zok A) : zf_X8_needed 10000 m = some (nI (aNeed A).length) := by
  have h60 := hk.2.1
  unfold zf_X8_needed
  rw [zlet_eq, h.1.2.2.2.1]
  have := zm_needL h hk A.1.length 0 10000 0 A.2.1.2.2.2.2.2.1 (by omega) (by omega)
  rw [nI_0, Nat.zero_add, List.drop_zero] at this
  exact this
theorem mk_need {m : zModel} {A : zAb} (h : zmR m A) (hk : zok A) : ∃ m', zf_X8_codesToSend 10000 m = some (nI (aNeed A).length, m') ∧ zmR m' A := by
  unfold zf_X8_codesToSend
  have := zm_need (m := zthr m 0) h hk
  rw [show zf_X8_needed 10000 (m.1, m.2.1, m.2.2.1, m.2.2.2.1, m.2.2.2.2.1, 0, m.2.2.2.2.2.2.1, m.2.2.2.2.2.2.2.1, m.2.2.2.2.2.2.2.2.1, m.2.2.2.2.2.2.2.2.2.1, m.2.2.2.2.2.2.2.2.2.2.1, m.2.2.2.2.2.2.2.2.2.2.2.1, m.2.2.2.2.2.2.2.2.2.2.2.2.1, m.2.2.2.2.2.2.2.2.2.2.2.2.2.1, m.2.2.2.2.2.2.2.2.2.2.2.2.2.2.1, m.2.2.2.2.2.2.2.2.2.2.2.2.2.2.2.1, m.2.2.2.2.2.2.2.2.2.2.2.2.2.2.2.2) = some (nI (aNeed A).length) from this, Option.bind_some]
  exact ⟨_, rfl, h⟩
end ZR
