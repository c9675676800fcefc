/-! ===== the pure part: the model sets a fault ===== -/
section ZV
theorem zMS_flt {s : Nat → Int32} {S : zNow} (h : zMS s S) (hk : zokS S) {i : Nat} (hi : i < 200) (f : Int32) : zMS (upd s (605 + i) (f + 1)) (zSetF S i f) := by
  obtain ⟨h1, h2, h3, h4, h5, h6, h7, h8⟩ := h
  have l1 := hk.1
  have l2 := hk.2.1
  have l3 := hk.2.2.1
  have l4 := hk.2.2.2.2.2.2.1
  have l5 := hk.2.2.2.2.1
  have he : ∀ k : Nat, k ≠ 605 + i → upd s (605 + i) (f + 1) k = s k := fun k hk => by unfold upd; rw [if_neg hk]
  refine ⟨zml_congr h1 (he 0 (by omega)) (fun j (hj : j < S.1.length) => he _ (by omega)), zml_congr h2 (he 201 (by omega)) (fun j (hj : j < S.2.1.length) => he _ (by omega)), zml_congr h3 (he 402 (by omega)) (fun j (hj : j < S.2.2.1.length) => he _ (by omega)), by rw [he 603 (by omega)]; exact h4, by rw [he 604 (by omega)]; exact h5, fun j hj => ?_, by rw [he 805 (by omega)]; exact h7, fun j w hw => ?_⟩
  · show _ = (S.2.2.2.1.set i f).getD j 0 + 1
    by_cases e : j = i
    · subst e
      unfold upd
      rw [if_pos rfl, List.getD_eq_getElem?_getD, List.getElem?_set_self (by omega)]
      rfl
    · rw [he _ (by omega), h6 j hj, List.getD_eq_getElem?_getD, List.getD_eq_getElem?_getD, List.getElem?_set_ne (fun e2 => e e2.symm)]
  · have hj := (List.getElem?_eq_some_iff.mp (show S.2.2.2.2.1[j]? = some w from hw)).1
    have hwd := (hk.2.2.2.2.2.2.2.1 w (List.mem_of_getElem? (show S.2.2.2.2.1[j]? = some w from hw))).2.1
    obtain ⟨g1, g2⟩ := h8 j w hw
    exact ⟨by rw [he _ (by omega)]; exact g1, fun q hq => by rw [he _ (by omega)]; exact g2 q hq⟩
theorem zm_inf (f : Int32) : zf_X8_in 10000 f (-1) 5 = some (if f < -1 ∨ 5 < f then 0 else 1) := by
  unfold zf_X8_in
  by_cases h1 : f < -1
  · rw [if_pos h1, if_pos (Or.inl h1)]
  · rw [if_neg h1]
    by_cases h2 : 5 < f
    · rw [if_pos h2, if_pos (Or.inr h2)]
    · rw [if_neg h2, if_neg (fun h => h.elim h1 h2)]
theorem zu_pred (f : Int32) : f + 1 - 1 = f := Int32.add_sub_cancel f 1
theorem zm_setf {m : zModel} {A : zAb} (h : zmR m A) (hk : zok A) (a f z : Int32) : zf_X8_setFault_b30 10000 m a f z m.1 m.2.1 m.2.2.1 m.2.2.2.1 m.2.2.2.2.1 m.2.2.2.2.2.1 m.2.2.2.2.2.2.1 m.2.2.2.2.2.2.2.1 m.2.2.2.2.2.2.2.2.1 m.2.2.2.2.2.2.2.2.2.1 m.2.2.2.2.2.2.2.2.2.2.1 m.2.2.2.2.2.2.2.2.2.2.2.1 m.2.2.2.2.2.2.2.2.2.2.2.2.1 m.2.2.2.2.2.2.2.2.2.2.2.2.2.1 m.2.2.2.2.2.2.2.2.2.2.2.2.2.2.1 m.2.2.2.2.2.2.2.2.2.2.2.2.2.2.2.1 m.2.2.2.2.2.2.2.2.2.2.2.2.2.2.2.2 = (zf_X8_refused 10000 m z).bind fun b5 => if b5.1 = 0 then ((zf_X8_saves 10000 b5.2).bind fun b7 => zlet ((605 : Int32) + a) fun x8 => if x8 < 0 ∨ 946 ≤ x8.toNatClampNeg then none else zlet (b7.1 x8.toNatClampNeg) fun x9 => zlet (x9 - (1 : Int32)) fun x10 => zlet (f + (1 : Int32)) fun x11 => if (605 : Int32) + a < 0 ∨ 946 ≤ ((605 : Int32) + a).toNatClampNeg then none else zlet (upd b7.1 ((605 : Int32) + a).toNatClampNeg x11) fun f12 => some (x10, (f12, b7.2))) else some (0, b5.2) := rfl
theorem mk_flt {m : zModel} {A : zAb} (h : zmR m A) (hk : zok A) (a f : Int32) : ∃ m', zf_X8_setFault 10000 m a f = some ((aFlt A a f).2.1, m') ∧ zf_X8_thrown 10000 m' = some (aFlt A a f).1 ∧ zmR m' (aFlt A a f).2.2 := by
  have o3 := hk.2.2.1
  have hl := o3.2.2.2.2.1
  unfold zf_X8_setFault
  rw [zm_setf h hk, zm_setf h hk, zm_setf h hk]
  rcases zm_in a (n := 200) (by omega) with ⟨e, e1⟩ | ⟨i, hi, rfl, e, e1⟩
  · rw [show zf_X8_in 10000 a 0 199 = some 0 from e1, Option.bind_some, if_pos rfl, zm_yes (by decide), Option.bind_some, if_neg z10, aFlt_n e]
    exact ⟨_, rfl, rfl, h⟩
  · rw [show zf_X8_in 10000 (nI i) 0 199 = some 1 from e1, Option.bind_some, if_neg z10, zm_inf, Option.bind_some]
    by_cases hf : f < -1 ∨ 5 < f
    · rw [if_pos hf, if_pos rfl, zm_yes (by decide), Option.bind_some, if_neg z10, aFlt_b e hf]
      exact ⟨_, rfl, rfl, h⟩
    · obtain ⟨w', g1, g2⟩ := zm_saves (m := zthr m 0) h hk
      rw [if_neg hf, if_neg z10, zm_no, Option.bind_some, if_pos rfl, g1, Option.bind_some, zlet_eq, show (605 : Int32) + nI i = nI (605 + i) from nI_add 605 i, if_neg (nI_in (by omega) (by omega)), zlet_eq, zlet_eq, zlet_eq, if_neg (nI_in (by omega) (by omega)), zlet_eq, nI_clamp (by omega), aFlt_s e hf]
      have hs := h.1.2.2.2.2.2.1 i hi
      refine ⟨((upd m.1 (605 + i) (f + 1), w', nI (zHs A.2.2 A.2.1).length, (zthr m 0).2.2.2) : zModel), ?_, rfl, zMS_flt h.1 o3 hi f, rfl, g2, h.2.2.2.1, h.2.2.2.2⟩
      show some (m.1 (605 + i) - 1, ((upd m.1 (605 + i) (f + 1), w', nI (zHs A.2.2 A.2.1).length, (zthr m 0).2.2.2) : zModel)) = some (A.2.1.2.2.2.1.getD i 0, _)
      rw [hs, zu_pred]
end ZV
