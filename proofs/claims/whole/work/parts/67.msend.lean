/-! ===== the pure part: the model sends ===== -/
section ZSD
theorem zud_eq (s : Nat → Int32) (i : Nat) (x : Int32) : upd s i x i = x := by unfold upd; rw [if_pos rfl]
theorem zud_ne {s : Nat → Int32} {i k : Nat} {x : Int32} (h : k ≠ i) : upd s i x k = s k := by unfold upd; rw [if_neg h]
theorem zml_reg {s s' : Nat → Int32} {c : Nat} {l : List Int32} (h : zml s c (c + 1) l) (hl : l.length ≤ 200) (he : ∀ k : Nat, c ≤ k → k < c + 201 → s' k = s k) : zml s' c (c + 1) l :=
  zml_congr h (he c (Nat.le_refl _) (by omega)) (fun i hi => he _ (by omega) (by omega))
theorem zml_add {s : Nat → Int32} {c : Nat} {l : List Int32} (h : zml s c (c + 1) l) {q : Nat} (hq : q = c + 1 + l.length) (x : Int32) : zml (upd (upd s q x) c (nI (l.length + 1))) c (c + 1) (l ++ [x]) := by
  subst hq
  refine ⟨by rw [zud_eq, List.length_append]; rfl, fun i hi => ?_⟩
  rw [List.length_append] at hi
  simp only [List.length_cons, List.length_nil] at hi
  rw [zud_ne (by omega)]
  by_cases e : i = l.length
  · subst e; rw [zud_eq]; simp
  · rw [zud_ne (by omega), List.getElem?_append_left (by omega)]; exact h.2 i (by omega)
def zmw (s : Nat → Int32) (ws : List (List Int32)) : Prop := s 805 = nI ws.length ∧ ∀ (i : Nat) (w : List Int32), ws[i]? = some w → s (806 + i) = nI w.length ∧ ∀ j : Nat, j < w.length → w[j]? = some (s (826 + 6 * i + j))
theorem zmw_reg {s s' : Nat → Int32} {ws : List (List Int32)} (h : zmw s ws) (h1 : ws.length ≤ 20) (h2 : ∀ w ∈ ws, w.length ≤ 6) (he : ∀ k : Nat, 805 ≤ k → k < 946 → s' k = s k) : zmw s' ws := by
  refine ⟨by rw [he 805 (by omega) (by omega)]; exact h.1, fun i w hw => ?_⟩
  have hi := (List.getElem?_eq_some_iff.mp hw).1
  have := h2 w (List.mem_of_getElem? hw)
  obtain ⟨g1, g2⟩ := h.2 i w hw
  exact ⟨by rw [he _ (by omega) (by omega)]; exact g1, fun j hj => by rw [he _ (by omega) (by omega)]; exact g2 j hj⟩
/-- the line's sizes and the words' -/
def zsz (S : zNow) : Prop := S.1.length ≤ 200 ∧ S.2.1.length ≤ S.1.length ∧ S.2.2.1.length ≤ S.1.length ∧ S.2.2.2.1.length = 200 ∧ (∀ f ∈ S.2.2.2.1, f = -1 ∨ ∃ k : Nat, k ≤ 5 ∧ f = nI k) ∧ S.2.2.2.2.1.length ≤ 20 ∧ ∀ w ∈ S.2.2.2.2.1, w.length ≤ 6
theorem zokS.sz {S : zNow} (h : zokS S) : zsz S := ⟨h.1, h.2.1, h.2.2.1, h.2.2.2.2.1, h.2.2.2.2.2.1, h.2.2.2.2.2.2.1, fun w hw => (h.2.2.2.2.2.2.2.1 w hw).2.1⟩
def zTx (S : zNow) (c : Int32) : zNow := ((ztx S.2.2.2.1 (S.1, S.2.1) c).1, (ztx S.2.2.2.1 (S.1, S.2.1) c).2, S.2.2)
theorem zTx_sz {S : zNow} (h : zsz S) (h1 : S.1.length < 200) (c : Int32) : zsz (zTx S c) := by
  obtain ⟨q1, q2⟩ := ztx_len S.2.2.2.1 (S.1, S.2.1) c h.2.1
  have q2 : (ztx S.2.2.2.1 (S.1, S.2.1) c).1.length = S.1.length + 1 := q2
  refine ⟨?_, q1, ?_, h.2.2.2.1, h.2.2.2.2.1, h.2.2.2.2.2.1, h.2.2.2.2.2.2⟩
  · show (ztx S.2.2.2.1 (S.1, S.2.1) c).1.length ≤ 200
    omega
  · show S.2.2.1.length ≤ (ztx S.2.2.2.1 (S.1, S.2.1) c).1.length
    have := h.2.2.1
    omega
theorem zTx_1 {s s1 : Nat → Int32} {S : zNow} (h : zMS s S) (hz : zsz S) (h1 : S.1.length < 200) {c : Int32} (hs1 : s1 = upd (upd s (1 + S.1.length) c) 0 (nI (S.1.length + 1))) : zMS s1 (S.1 ++ [c], S.2) := by
  obtain ⟨z1, z2, z3, z4, z5, z6, z7⟩ := hz
  have l1 : S.1.length ≤ 200 := z1
  have l2 : S.2.1.length ≤ 200 := Nat.le_trans z2 z1
  have l3 : S.2.2.1.length ≤ 200 := Nat.le_trans z3 z1
  obtain ⟨g1, g2, g3, g4, g5, g6, g7⟩ := h
  have he : ∀ k : Nat, 201 ≤ k → s1 k = s k := fun k hk => by rw [hs1, zud_ne (by omega), zud_ne (by omega)]
  refine ⟨?_, zml_reg (c := 201) g2 l2 (fun k a _ => he k a), zml_reg (c := 402) g3 l3 (fun k a _ => he k (by omega)), by rw [he 603 (by omega)]; exact g4, by rw [he 604 (by omega)]; exact g5, fun i hi => by rw [he _ (by omega)]; exact g6 i hi, zmw_reg g7 z6 z7 (fun k a _ => he k (by omega))⟩
  rw [hs1]
  exact zml_add (c := 0) g1 (by omega) c
theorem zTx_2 {s s1 : Nat → Int32} {S : zNow} (h : zMS s S) (hz : zsz S) (h1 : S.2.1.length < 200) {c : Int32} (hs1 : s1 = upd (upd s (202 + S.2.1.length) c) 201 (nI (S.2.1.length + 1))) : zMS s1 (S.1, S.2.1 ++ [c], S.2.2) := by
  obtain ⟨z1, z2, z3, z4, z5, z6, z7⟩ := hz
  have l1 : S.1.length ≤ 200 := z1
  have l2 : S.2.1.length ≤ 200 := Nat.le_trans z2 z1
  have l3 : S.2.2.1.length ≤ 200 := Nat.le_trans z3 z1
  obtain ⟨g1, g2, g3, g4, g5, g6, g7⟩ := h
  have he : ∀ k : Nat, k < 201 ∨ 402 ≤ k → s1 k = s k := fun k hk => by rw [hs1, zud_ne (by omega), zud_ne (by omega)]
  refine ⟨zml_reg (c := 0) g1 l1 (fun k a _ => he k (by omega)), ?_, zml_reg (c := 402) g3 l3 (fun k a _ => he k (by omega)), by rw [he 603 (by omega)]; exact g4, by rw [he 604 (by omega)]; exact g5, fun i hi => by rw [he _ (by omega)]; exact g6 i hi, zmw_reg g7 z6 z7 (fun k a _ => he k (by omega))⟩
  rw [hs1]
  exact zml_add (c := 201) g2 (by omega) c
theorem zTx_3 {s s1 : Nat → Int32} {S : zNow} (h : zMS s S) (hz : zsz S) (h1 : S.2.2.1.length < 200) {c : Int32} (hs1 : s1 = upd (upd s (403 + S.2.2.1.length) c) 402 (nI (S.2.2.1.length + 1))) : zMS s1 (S.1, S.2.1, S.2.2.1 ++ [c], S.2.2.2) := by
  obtain ⟨z1, z2, z3, z4, z5, z6, z7⟩ := hz
  have l1 : S.1.length ≤ 200 := z1
  have l2 : S.2.1.length ≤ 200 := Nat.le_trans z2 z1
  have l3 : S.2.2.1.length ≤ 200 := Nat.le_trans z3 z1
  obtain ⟨g1, g2, g3, g4, g5, g6, g7⟩ := h
  have he : ∀ k : Nat, k < 402 ∨ 603 ≤ k → s1 k = s k := fun k hk => by rw [hs1, zud_ne (by omega), zud_ne (by omega)]
  refine ⟨zml_reg (c := 0) g1 l1 (fun k a _ => he k (by omega)), zml_reg (c := 201) g2 l2 (fun k a _ => he k (by omega)), ?_, by rw [he 603 (by omega)]; exact g4, by rw [he 604 (by omega)]; exact g5, fun i hi => by rw [he _ (by omega)]; exact g6 i hi, zmw_reg g7 z6 z7 (fun k a _ => he k (by omega))⟩
  rw [hs1]
  exact zml_add (c := 402) g3 (by omega) c
theorem zTx_4 {s : Nat → Int32} {S : zNow} (h : zMS s S) (hz : zsz S) (a : Int32) : zMS (upd s 603 a) (S.1, S.2.1, S.2.2.1, S.2.2.2.1, S.2.2.2.2.1, a, S.2.2.2.2.2.2) := by
  obtain ⟨z1, z2, z3, z4, z5, z6, z7⟩ := hz
  have l1 : S.1.length ≤ 200 := z1
  have l2 : S.2.1.length ≤ 200 := Nat.le_trans z2 z1
  have l3 : S.2.2.1.length ≤ 200 := Nat.le_trans z3 z1
  obtain ⟨g1, g2, g3, g4, g5, g6, g7⟩ := h
  have he : ∀ k : Nat, k ≠ 603 → upd s 603 a k = s k := fun k hk => zud_ne hk
  exact ⟨zml_reg (c := 0) g1 l1 (fun k a _ => he k (by omega)), zml_reg (c := 201) g2 l2 (fun k a _ => he k (by omega)), zml_reg (c := 402) g3 l3 (fun k a _ => he k (by omega)), zud_eq _ _ _, by rw [he 604 (by omega)]; exact g5, fun i hi => by rw [he _ (by omega)]; exact g6 i hi, zmw_reg g7 z6 z7 (fun k a _ => he k (by omega))⟩
theorem zTx_5 {s : Nat → Int32} {S : zNow} (h : zMS s S) (hz : zsz S) (a : Int32) : zMS (upd s 604 a) (zSetU S a) := by
  obtain ⟨z1, z2, z3, z4, z5, z6, z7⟩ := hz
  have l1 : S.1.length ≤ 200 := z1
  have l2 : S.2.1.length ≤ 200 := Nat.le_trans z2 z1
  have l3 : S.2.2.1.length ≤ 200 := Nat.le_trans z3 z1
  obtain ⟨g1, g2, g3, g4, g5, g6, g7⟩ := h
  have he : ∀ k : Nat, k ≠ 604 → upd s 604 a k = s k := fun k hk => zud_ne hk
  exact ⟨zml_reg (c := 0) g1 l1 (fun k a _ => he k (by omega)), zml_reg (c := 201) g2 l2 (fun k a _ => he k (by omega)), zml_reg (c := 402) g3 l3 (fun k a _ => he k (by omega)), by rw [he 603 (by omega)]; exact g4, zud_eq _ _ _, fun i hi => by rw [he _ (by omega)]; exact g6 i hi, zmw_reg g7 z6 z7 (fun k a _ => he k (by omega))⟩
theorem zneg_nle : ¬ (0 : Int32) ≤ -1 := by decide
/-- one code is sent -/
theorem zm_snd1 {m : zModel} {S : zNow} (h : zMS m.1 S) (hz : zsz S) (h1 : S.1.length < 200) (c : Int32) : ∃ s', zf_X8_sends 10000 m c = some (s', m.2) ∧ zMS s' (zTx S c) := by
  have e0 : m.1 0 = nI S.1.length := h.1.1
  have h2 := hz.2.1
  have hx : S.2.2.2.1[S.1.length]? = some (S.2.2.2.1.getD S.1.length 0) := zgetD (by have := hz.2.2.2.1; omega)
  have hf := hz.2.2.2.2.1 _ (List.mem_of_getElem? hx)
  have h6 : m.1 (605 + S.1.length) = S.2.2.2.1.getD S.1.length 0 + 1 := h.2.2.2.2.2.1 _ h1
  have e605 : (605 : Int32) + nI S.1.length = nI (605 + S.1.length) := nI_add 605 _
  have e1 : (1 : Int32) + nI S.1.length = nI (1 + S.1.length) := nI_add 1 _
  unfold zf_X8_sends
  simp only [zlet_eq, e0, e605, e1]
  rw [if_neg (nI_in (by omega) (by omega)), if_neg (nI_in (by omega) (by omega)), nI_clamp (by omega), nI_clamp (by omega), h6, zu_pred, zud_ne (show 0 ≠ 1 + S.1.length by omega), e0, nI_1]
  have g := zTx_1 h hz h1 (c := c) rfl
  have gz : zsz (S.1 ++ [c], S.2) := ⟨by show (S.1 ++ [c]).length ≤ 200; rw [List.length_append]; exact h1, by show S.2.1.length ≤ (S.1 ++ [c]).length; rw [List.length_append]; omega, by show S.2.2.1.length ≤ (S.1 ++ [c]).length; rw [List.length_append]; have := hz.2.2.1; omega, hz.2.2.2⟩
  have e201 : upd (upd m.1 (1 + S.1.length) c) 0 (nI (S.1.length + 1)) 201 = nI S.2.1.length := g.2.1.1
  have b77 : ∀ x : Int32, ∃ s', zf_X8_sends_b77 10000 m ((202 : Int32) + nI S.2.1.length) x (upd (upd m.1 (1 + S.1.length) c) 0 (nI (S.1.length + 1))) = some (s', m.2) ∧ zMS s' (S.1 ++ [c], S.2.1 ++ [x], S.2.2) := by
    intro x
    unfold zf_X8_sends_b77
    rw [show (202 : Int32) + nI S.2.1.length = nI (202 + S.2.1.length) from nI_add 202 _, if_neg (nI_in (by omega) (by omega)), nI_clamp (by omega)]
    simp only [zlet_eq]
    rw [zud_ne (show 201 ≠ 202 + S.2.1.length by omega), e201, nI_1]
    exact ⟨_, rfl, zTx_2 g gz (by show S.2.1.length < 200; omega) rfl⟩
  unfold zTx ztx zrx
  by_cases q0 : S.2.2.2.1.getD S.1.length 0 = 0
  · rw [if_pos q0]
    refine ⟨_, rfl, ?_⟩
    simp only [q0, if_neg (show ¬ (0 : Int32) = -1 by decide), if_true, List.append_nil]
    exact g
  · rw [if_neg q0, e201]
    rcases hf with q1 | ⟨k, hk, q1⟩
    · rw [if_neg (by rw [q1]; exact zneg_nle)]
      obtain ⟨s', e, g'⟩ := b77 c
      refine ⟨s', e, ?_⟩
      simp only [q1, if_true]
      exact g'
    · have qn : ¬ S.2.2.2.1.getD S.1.length 0 = -1 := by
        rw [q1]
        have : ∀ k : Nat, k < 6 → ¬ nI k = -1 := by decide
        exact this k (by omega)
      rw [if_pos (by rw [q1]; exact nI_pos' (by omega))]
      obtain ⟨s', e, g'⟩ := b77 (c ^^^ ((1 : Int32) <<< ((S.2.2.2.1.getD S.1.length 0 - 1) &&& 31)))
      refine ⟨s', e, ?_⟩
      simp only [if_neg qn, if_neg q0]
      exact g'
end ZSD
