/-! ===== the pure part: the model saves ===== -/
section ZN
theorem zm_b50 {v0 : zModel} {w0 : Nat → Int32} {c : Nat} (hc : c < 6) : ∃ w', zf_X8_saves_b50 10000 v0 w0 (nI c) = some (v0.1, w', nI (c + 1), v0.2.2.2) ∧ (∀ k : Nat, k < 946 → w' (946 * c + k) = v0.1 k) ∧ ∀ q : Nat, q < 946 * c → w' q = w0 q := by
  unfold zf_X8_saves_b50
  obtain ⟨w', g1, g2, g3⟩ := zm_sv (v0 := v0) hc 946 0 10000 w0 (by omega) (by omega)
  rw [nI_0] at g1
  exact ⟨w', g1, fun k hk => g2 k (Nat.zero_le _) hk, fun q hq => g3 q (Or.inl (by omega))⟩
theorem zm_saves {m : zModel} {A : zAb} (h : zmR m A) (hk : zok A) : ∃ w', zf_X8_saves 10000 m = some (m.1, w', nI (zHs A.2.2 A.2.1).length, m.2.2.2) ∧ ∀ (i : Nat) (S : zNow), (zHs A.2.2 A.2.1)[i]? = some S → zMS (fun k => w' (946 * i + k)) S := by
  obtain ⟨h1, h2, h3, h4, h5⟩ := h
  obtain ⟨-, -, o3, o4, o5, -⟩ := hk
  unfold zf_X8_saves
  rw [h2]
  by_cases h6 : A.2.2.length = 6
  · obtain ⟨w1, e1, q1, q2⟩ := zm_sh (v0 := m) (c := 5) 4730 0 10000 m.2.1 (by omega) (by omega)
    obtain ⟨w', g1, g2, g3⟩ := zm_b50 (v0 := m) (w0 := w1) (c := 5) (by omega)
    rw [nI_0] at e1
    rw [h6, if_pos (show nI 6 = 6 from by decide), e1, g1]
    have hH : zHs A.2.2 A.2.1 = A.2.2.drop 1 ++ [A.2.1] := by unfold zHs; rw [if_pos h6]
    have hl : (A.2.2.drop 1).length = 5 := by rw [List.length_drop]; omega
    refine ⟨w', by rw [hH, List.length_append, hl]; rfl, fun i S hS => ?_⟩
    rw [hH] at hS
    by_cases hi : i < 5
    · rw [List.getElem?_append_left (by omega), List.getElem?_drop, Nat.add_comm] at hS
      refine zMS_congr (h3 (i + 1) S hS) (o5 S (List.mem_of_getElem? hS)) (fun k hk => ?_)
      show w' (946 * i + k) = m.2.1 (946 * (i + 1) + k)
      rw [g3 _ (by omega), q1 _ (Nat.zero_le _) (by omega), show 946 + (946 * i + k) = 946 * (i + 1) + k by omega]
    · have hlt := (List.getElem?_eq_some_iff.mp hS).1
      rw [List.length_append, hl] at hlt
      simp only [List.length_cons, List.length_nil] at hlt
      obtain rfl : i = 5 := by omega
      rw [List.getElem?_append_right (by omega), hl, Nat.sub_self] at hS
      obtain rfl : A.2.1 = S := Option.some.inj hS
      exact zMS_congr h1 o3 (fun k hk => g2 k hk)
  · obtain ⟨w', g1, g2, g3⟩ := zm_b50 (v0 := m) (w0 := m.2.1) (c := A.2.2.length) (by omega)
    have hne : ¬ nI A.2.2.length = 6 := fun e => h6 ((nI_eq (b := 6) (by omega) (by omega)).mp e)
    have hH : zHs A.2.2 A.2.1 = A.2.2 ++ [A.2.1] := by unfold zHs; rw [if_neg h6]
    rw [if_neg hne, g1]
    refine ⟨w', by rw [hH, List.length_append]; rfl, fun i S hS => ?_⟩
    rw [hH] at hS
    by_cases hi : i < A.2.2.length
    · rw [List.getElem?_append_left hi] at hS
      refine zMS_congr (h3 i S hS) (o5 S (List.mem_of_getElem? hS)) (fun k hk => ?_)
      exact g3 _ (by omega)
    · have hlt := (List.getElem?_eq_some_iff.mp hS).1
      rw [List.length_append] at hlt
      simp only [List.length_cons, List.length_nil] at hlt
      obtain rfl : i = A.2.2.length := by omega
      rw [List.getElem?_append_right (Nat.le_refl _), Nat.sub_self] at hS
      obtain rfl : A.2.1 = S := Option.some.inj hS
      exact zMS_congr h1 o3 (fun k hk => g2 k hk)
end ZN
