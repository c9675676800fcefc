/-! ===== the pure part: the model sets a fault ===== -/
section ZV
theorem zMS_flt {s : Nat → Int32} {S : zNow} (h : zMS s S) (hk : zokS S) {i : Nat} (hi : i < 200) (f : Int32) : zMS (upd s (605 + i) (f + 1)) (zSetF S i f) := by
  obtain ⟨h1, h2, h3, h4, h5, h6, h7, h8⟩ := h
  have l1 := hk.1
  have l2 := hk.2.1
  have l3 := hk.2.2.1
  have l4 := hk.2.2.2.2.2.2.1
  have l5 := hk.2.2.2.2.1
  have he : ∀ k : Nat, k ≠ 605 + i → upd s (605 + i) (f + 1) k = s k := fun k hk => by unfold upd; rw [if_neg hk]
  refine ⟨zml_congr h1 (he 0 (by omega)) (fun j (hj : j < S.1.length) => he _ (by omega)), zml_congr h2 (he 201 (by omega)) (fun j (hj : j < S.2.1.length) => he _ (by omega)), zml_congr h3 (he 402 (by omega)) (fun j (hj : j < S.2.2.1.length) => he _ (by omega)), by rw [he 603 (by omega)]; exact h4, by rw [he 604 (by omega)]; exact h5, fun j hj => ?_, by rw [he 805 (by omega)]; exact h7, fun j w hw => ?_⟩
  · show _ = (S.2.2.2.1.set i f).getD j 0 + 1
    by_cases e : j = i
    · subst e
      unfold upd
      rw [if_pos rfl, List.getD_eq_getElem?_getD, List.getElem?_set_self (by omega)]
      rfl
    · rw [he _ (by omega), h6 j hj, List.getD_eq_getElem?_getD, List.getD_eq_getElem?_getD, List.getElem?_set_ne (fun e2 => e e2.symm)]
  · have hj := (List.getElem?_eq_some_iff.mp (show S.2.2.2.2.1[j]? = some w from hw)).1
    have hwd := (hk.2.2.2.2.2.2.2.1 w (List.mem_of_getElem? (show S.2.2.2.2.1[j]? = some w from hw))).2.1
    obtain ⟨g1, g2⟩ := h8 j w hw
    exact ⟨by rw [he _ (by omega)]; exact g1, fun q hq => by rw [he _ (by omega)]; exact g2 q hq⟩
theorem zm_inf (f : Int32) : zf_X8_in 10000 f (-1) 5 = some (if f < -1 ∨ 5 < f then 0 else 1) := by
  unfold zf_X8_in
  by_cases h1 : f < -1
  · rw [if_pos h1, if_pos (Or.inl h1)]
  · rw [if_neg h1]
    by_cases h2 : 5 < f
    · rw [if_pos h2, if_pos (Or.inr h2)]
    · rw [if_neg h2, if_neg (fun h => h.elim h1 h2)]
theorem zu_pred (f : Int32) : f + 1 - 1 = f := Int32.add_sub_cancel f 1
end ZV
