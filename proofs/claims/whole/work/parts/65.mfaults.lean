/-! ===== the pure part: the model's faults ===== -/
section ZU
theorem zu_le {f : Int32} (h : f = -1 ∨ ∃ k : Nat, k ≤ 5 ∧ f = nI k) : f + 1 ≤ 0 ↔ f = -1 := by
  rcases h with rfl | ⟨k, hk, rfl⟩
  · decide
  · have : ∀ k : Nat, k < 6 → (nI k + 1 ≤ 0 ↔ nI k = -1) := by decide +kernel
    exact this k (by omega)
theorem zu_L {m : zModel} {A : zAb} (h : zmR m A) (hk : zok A) : ∀ (d i n c : Nat), i + d = 200 → d < n → zf_X8_faulty_L4 10000 m n (nI c) (nI i) = some (nI (c + d - (A.2.1.2.2.2.1.drop i).count (-1)))
  | d, i, 0, c, _, hn => absurd hn (Nat.not_lt_zero _)
  | 0, i, n + 1, c, hd, hn => by
    have hl := hk.2.2.1.2.2.2.2.1
    unfold zf_X8_faulty_L4
    rw [if_pos (show (200 : Int32) ≤ nI i from nI_le (a := 200) (by omega) (by omega)), List.drop_of_length_le (by omega)]
    rfl
  | d + 1, i, n + 1, c, hd, hn => by
    have hl := hk.2.2.1.2.2.2.2.1
    have hi : i < A.2.1.2.2.2.1.length := by omega
    have hf := hk.2.2.1.2.2.2.2.2.1 _ (List.getElem_mem hi)
    have hs := h.1.2.2.2.2.2.1 i (by omega)
    have hg : A.2.1.2.2.2.1.getD i 0 = A.2.1.2.2.2.1[i] := by rw [List.getD_eq_getElem?_getD, List.getElem?_eq_getElem hi]; rfl
    have hcl : (A.2.1.2.2.2.1.drop (i + 1)).count (-1) ≤ d := by
      have := List.count_le_length (a := (-1 : Int32)) (l := A.2.1.2.2.2.1.drop (i + 1))
      rw [List.length_drop] at this
      omega
    unfold zf_X8_faulty_L4 zf_X8_faulty_b30
    rw [if_neg (show ¬ (200 : Int32) ≤ nI i from nI_ge (b := 200) (by omega) (by omega)), zlet_eq, show (605 : Int32) + nI i = nI (605 + i) from nI_add 605 i, if_neg (nI_in (by omega) (by omega)), zlet_eq, nI_clamp (by omega), hs, hg, List.drop_eq_getElem_cons hi, List.count_cons]
    by_cases e : A.2.1.2.2.2.1[i] = -1
    · rw [if_pos ((zu_le hf).mpr e), zlet_eq, zlet_eq, Int32.add_zero, nI_1, zu_L h hk d (i + 1) n c (by omega) (by omega), if_pos (by simpa using e)]
      congr 2
      omega
    · rw [if_neg (fun h => e ((zu_le hf).mp h)), zlet_eq, zlet_eq, nI_1, nI_1, zu_L h hk d (i + 1) n (c + 1) (by omega) (by omega), if_neg (by simpa using e)]
      congr 2
      omega
theorem mq_faults {m : zModel} {A : zAb} (h : zmR m A) (hk : zok A) : ∃ m', zf_X8_faults 10000 m = some (200 - nI (A.2.1.2.2.2.1.count (-1)), m') ∧ zmR m' A := by
  have hl := hk.2.2.1.2.2.2.2.1
  have hc : A.2.1.2.2.2.1.count (-1) ≤ 200 := by rw [← hl]; exact List.count_le_length
  have e := zu_L (m := zthr m 0) h hk 200 0 10000 0 (by omega) (by omega)
  rw [nI_0, List.drop_zero, Nat.zero_add] at e
  have hsub : (200 : Int32) - nI (A.2.1.2.2.2.1.count (-1)) = nI (200 - A.2.1.2.2.2.1.count (-1)) := by
    have := nI_subL (A.2.1.2.2.2.1.count (-1)) (200 - A.2.1.2.2.2.1.count (-1))
    rw [Nat.add_sub_cancel' hc] at this
    exact this
  unfold zf_X8_faults zf_X8_faulty
  rw [hsub]
  refine ⟨zthr m 0, ?_, h⟩
  show (zf_X8_faulty_L4 10000 (zthr m 0) 10000 0 0).bind (fun b1 => some (b1, zthr m 0)) = _
  rw [e, Option.bind_some]
end ZU
