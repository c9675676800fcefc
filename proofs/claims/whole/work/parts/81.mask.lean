/-! ===== the pure part: what the model tells of what is printed ===== -/
section ZMA
theorem mq_prLen {m : zModel} {A : zAb} (h : zmR m A) (hk : zok A) : ∃ m', zf_X8_printedLength 10000 m = some (nI (zPn A.2.1).1.length, m') ∧ zmR m' A := by
  obtain ⟨m', e, q, s, f⟩ := zm_dec0 (m := zthr m 0) h hk
  unfold zf_X8_printedLength
  rw [show zf_X8_decodes 10000 (m.1, m.2.1, m.2.2.1, m.2.2.2.1, m.2.2.2.2.1, 0, m.2.2.2.2.2.2) (-1) 0 = some m' from e, Option.bind_some, q.1.1]
  exact ⟨m', rfl, zmR_fr (m := zthr m 0) h f⟩
theorem mq_segs {m : zModel} {A : zAb} (h : zmR m A) (hk : zok A) : ∃ m', zf_X8_segments 10000 m = some (nI (zPn A.2.1).2.2.1.length, m') ∧ zmR m' A := by
  obtain ⟨m', e, q, s, f⟩ := zm_dec0 (m := zthr m 0) h hk
  unfold zf_X8_segments
  rw [show zf_X8_decodes 10000 (m.1, m.2.1, m.2.2.1, m.2.2.2.1, m.2.2.2.2.1, 0, m.2.2.2.2.2.2) (-1) 0 = some m' from e, Option.bind_some, q.2.2.1.1]
  exact ⟨m', rfl, zmR_fr (m := zthr m 0) h f⟩
theorem mq_bells {m : zModel} {A : zAb} (h : zmR m A) (hk : zok A) : ∃ m', zf_X8_bells 10000 m = some ((zPn A.2.1).2.2.2.2.2.1, m') ∧ zmR m' A := by
  obtain ⟨m', e, q, s, f⟩ := zm_dec0 (m := zthr m 0) h hk
  unfold zf_X8_bells
  rw [show zf_X8_decodes 10000 (m.1, m.2.1, m.2.2.1, m.2.2.2.1, m.2.2.2.2.1, 0, m.2.2.2.2.2.2) (-1) 0 = some m' from e, Option.bind_some, q.2.2.2.2.2.1]
  exact ⟨m', rfl, zmR_fr (m := zthr m 0) h f⟩
theorem mq_quest {m : zModel} {A : zAb} (h : zmR m A) (hk : zok A) : ∃ m', zf_X8_questions 10000 m = some ((zPn A.2.1).2.2.2.2.2.2, m') ∧ zmR m' A := by
  obtain ⟨m', e, q, s, f⟩ := zm_dec0 (m := zthr m 0) h hk
  unfold zf_X8_questions
  rw [show zf_X8_decodes 10000 (m.1, m.2.1, m.2.2.1, m.2.2.2.1, m.2.2.2.2.1, 0, m.2.2.2.2.2.2) (-1) 0 = some m' from e, Option.bind_some, q.2.2.2.2.2.2.1]
  exact ⟨m', rfl, zmR_fr (m := zthr m 0) h f⟩
theorem mq_rshift {m : zModel} {A : zAb} (h : zmR m A) (hk : zok A) : ∃ m', zf_X8_receiverShift 10000 m = some ((zPn A.2.1).2.2.2.2.1, m') ∧ zmR m' A := by
  obtain ⟨m', e, q, s, f⟩ := zm_dec0 (m := zthr m 0) h hk
  unfold zf_X8_receiverShift
  rw [show zf_X8_decodes 10000 (m.1, m.2.1, m.2.2.1, m.2.2.2.1, m.2.2.2.2.1, 0, m.2.2.2.2.2.2) (-1) 0 = some m' from e, Option.bind_some, s]
  exact ⟨m', rfl, zmR_fr (m := zthr m 0) h f⟩
theorem zfl_at {f : Nat → Int32} {n : Int32} {l : List Int32} (h : zfl f n l) {i : Nat} (hi : i < l.length) : f i = l.getD i 0 := by
  have := h.2 i hi
  rw [zgetD hi] at this
  exact (Option.some.inj this).symm
/-- the rows' sizes -/
theorem zle_dec {ws : List Int32} {u : Int32} : ∀ (l run : List Int32) (P : zPr) (a : Nat), zle P a → zle (zdec ws u run l P) (a + run.length + l.length)
  | [], run, P, a, h => by
    unfold zdec
    obtain ⟨h1, h2, h3, h4⟩ := h
    cases run with
    | nil => exact ⟨h1, h2, h3, h4⟩
    | cons c cs =>
      unfold zsegE zseg zle
      simp only [List.length_append, List.length_map, List.length_cons, List.length_nil]
      exact ⟨by omega, by omega, by omega, by omega⟩
  | c :: cs, run, P, a, h => by
    unfold zdec
    by_cases hg : zsg c = true
    · rw [if_pos hg]
      have := zle_dec (ws := ws) (u := u) cs (run ++ [c]) P a h
      rw [List.length_append, List.length_singleton] at this
      rw [List.length_cons, show a + run.length + (cs.length + 1) = a + (run.length + 1) + cs.length by omega]
      exact this
    · rw [if_neg hg]
      have h2 : zle (zobey u c (zsegE ws run P)) (a + run.length + 1) := by
        obtain ⟨h1, h2, h3, h4⟩ := h
        have key : zle (zsegE ws run P) (a + run.length) := by
          cases run with
          | nil => exact ⟨h1, h2, h3, h4⟩
          | cons x xs =>
            unfold zsegE zseg zle
            simp only [List.length_append, List.length_map, List.length_cons, List.length_nil]
            exact ⟨by omega, by omega, by omega, by omega⟩
        obtain ⟨k1, k2, k3, k4⟩ := key
        refine ⟨?_, by show (zsegE ws run P).2.1.length ≤ _; omega, by show (zsegE ws run P).2.2.1.length ≤ _; omega, by show (zsegE ws run P).2.2.2.1.length ≤ _; omega⟩
        unfold zobey
        show (if _ then _ else _ : List Int32).length ≤ _
        split
        · omega
        · rw [List.length_append]; simp only [List.length_cons, List.length_nil]; omega
      have := zle_dec (ws := ws) (u := u) cs [] _ _ h2
      rw [List.length_cons, show a + run.length + (cs.length + 1) = a + run.length + 1 + ([] : List Int32).length + cs.length by simp only [List.length_nil]; omega]
      exact this
theorem zPn_le {A : zAb} (hk : zok A) : zle (zPn A.2.1) 200 := by
  have o3 := hk.2.2.1
  have := zle_dec (ws := A.2.1.2.2.2.2.1.map zpk) (u := A.2.1.2.2.2.2.2.2) A.2.1.2.1 [] zP0 0 ⟨Nat.le_refl _, Nat.le_refl _, Nat.le_refl _, Nat.le_refl _⟩
  rw [show 0 + ([] : List Int32).length + A.2.1.2.1.length = A.2.1.2.1.length by simp only [List.length_nil]; omega] at this
  have h2 : A.2.1.2.1.length ≤ 200 := Nat.le_trans o3.2.1 o3.1
  obtain ⟨k1, k2, k3, k4⟩ := this
  exact ⟨Nat.le_trans k1 h2, Nat.le_trans k2 h2, Nat.le_trans k3 h2, Nat.le_trans k4 h2⟩
theorem zm_prb {v0 m : zModel} (a z : Int32) : zf_X8_printed_b26 10000 v0 a z m.1 m.2.1 m.2.2.1 m.2.2.2.1 m.2.2.2.2.1 m.2.2.2.2.2.1 m.2.2.2.2.2.2.1 m.2.2.2.2.2.2.2.1 m.2.2.2.2.2.2.2.2.1 m.2.2.2.2.2.2.2.2.2.1 m.2.2.2.2.2.2.2.2.2.2.1 m.2.2.2.2.2.2.2.2.2.2.2.1 m.2.2.2.2.2.2.2.2.2.2.2.2.1 m.2.2.2.2.2.2.2.2.2.2.2.2.2.1 m.2.2.2.2.2.2.2.2.2.2.2.2.2.2.1 m.2.2.2.2.2.2.2.2.2.2.2.2.2.2.2.1 m.2.2.2.2.2.2.2.2.2.2.2.2.2.2.2.2 = (zf_X8_refused 10000 m z).bind fun b4 => if b4.1 = 0 then (if a < 0 ∨ 201 ≤ a.toNatClampNeg then none else zlet (b4.2.2.2.2.2.2.2.1 a.toNatClampNeg) fun x6 => some (x6, b4.2)) else some (0, b4.2) := rfl
theorem zm_slb {v0 m : zModel} (a z : Int32) : zf_X8_segmentLength_b26 10000 v0 a z m.1 m.2.1 m.2.2.1 m.2.2.2.1 m.2.2.2.2.1 m.2.2.2.2.2.1 m.2.2.2.2.2.2.1 m.2.2.2.2.2.2.2.1 m.2.2.2.2.2.2.2.2.1 m.2.2.2.2.2.2.2.2.2.1 m.2.2.2.2.2.2.2.2.2.2.1 m.2.2.2.2.2.2.2.2.2.2.2.1 m.2.2.2.2.2.2.2.2.2.2.2.2.1 m.2.2.2.2.2.2.2.2.2.2.2.2.2.1 m.2.2.2.2.2.2.2.2.2.2.2.2.2.2.1 m.2.2.2.2.2.2.2.2.2.2.2.2.2.2.2.1 m.2.2.2.2.2.2.2.2.2.2.2.2.2.2.2.2 = (zf_X8_refused 10000 m z).bind fun b4 => if b4.1 = 0 then (if a < 0 ∨ 201 ≤ a.toNatClampNeg then none else zlet (b4.2.2.2.2.2.2.2.2.2.2.1 a.toNatClampNeg) fun x6 => some (x6, b4.2)) else some (0, b4.2) := rfl
theorem zm_skb {v0 m : zModel} (a z : Int32) : zf_X8_segmentKind_b26 10000 v0 a z m.1 m.2.1 m.2.2.1 m.2.2.2.1 m.2.2.2.2.1 m.2.2.2.2.2.1 m.2.2.2.2.2.2.1 m.2.2.2.2.2.2.2.1 m.2.2.2.2.2.2.2.2.1 m.2.2.2.2.2.2.2.2.2.1 m.2.2.2.2.2.2.2.2.2.2.1 m.2.2.2.2.2.2.2.2.2.2.2.1 m.2.2.2.2.2.2.2.2.2.2.2.2.1 m.2.2.2.2.2.2.2.2.2.2.2.2.2.1 m.2.2.2.2.2.2.2.2.2.2.2.2.2.2.1 m.2.2.2.2.2.2.2.2.2.2.2.2.2.2.2.1 m.2.2.2.2.2.2.2.2.2.2.2.2.2.2.2.2 = (zf_X8_refused 10000 m z).bind fun b4 => if b4.1 = 0 then (if a < 0 ∨ 201 ≤ a.toNatClampNeg then none else zlet (b4.2.2.2.2.2.2.2.2.2.2.2.1 a.toNatClampNeg) fun x6 => some (x6, b4.2)) else some (0, b4.2) := rfl
theorem mq_printed {m : zModel} {A : zAb} (h : zmR m A) (hk : zok A) (a : Int32) : ∃ m', zf_X8_printed 10000 m a = some ((zidx a (zPn A.2.1).1).2, m') ∧ zf_X8_thrown 10000 m' = some (zidx a (zPn A.2.1).1).1 ∧ zmR m' A := by
  obtain ⟨m', e, q, s, f⟩ := zm_dec0 h hk
  have hl := (zPn_le hk).1
  have hR := zmR_fr h f
  unfold zf_X8_printed zidx
  rw [e, Option.bind_some, zm_prb, zm_prb, q.1.1]
  rcases zm_in a (n := (zPn A.2.1).1.length) (by omega) with ⟨g, e1⟩ | ⟨i, hi, rfl, g, e1⟩
  · rw [e1, Option.bind_some, if_pos rfl, g, zm_yes (by decide), Option.bind_some, if_neg z10]
    exact ⟨_, rfl, rfl, hR⟩
  · rw [e1, Option.bind_some, if_neg z10, g, zm_no, Option.bind_some, if_pos rfl, if_neg (nI_in (by omega) (by omega)), zlet_eq, nI_clamp (by omega), show (zthr m' 0).2.2.2.2.2.2.1 i = (zPn A.2.1).1.getD i 0 from zfl_at q.1 hi]
    exact ⟨_, rfl, rfl, hR⟩
theorem mq_segLen {m : zModel} {A : zAb} (h : zmR m A) (hk : zok A) (a : Int32) : ∃ m', zf_X8_segmentLength 10000 m a = some ((zidx a (zPn A.2.1).2.1).2, m') ∧ zf_X8_thrown 10000 m' = some (zidx a (zPn A.2.1).2.1).1 ∧ zmR m' A := by
  obtain ⟨m', e, q, s, f⟩ := zm_dec0 h hk
  have hl := (zPn_le hk).2.1
  have hR := zmR_fr h f
  unfold zf_X8_segmentLength zidx
  rw [e, Option.bind_some, zm_slb, zm_slb, q.2.1.1]
  rcases zm_in a (n := (zPn A.2.1).2.1.length) (by omega) with ⟨g, e1⟩ | ⟨i, hi, rfl, g, e1⟩
  · rw [e1, Option.bind_some, if_pos rfl, g, zm_yes (by decide), Option.bind_some, if_neg z10]
    exact ⟨_, rfl, rfl, hR⟩
  · rw [e1, Option.bind_some, if_neg z10, g, zm_no, Option.bind_some, if_pos rfl, if_neg (nI_in (by omega) (by omega)), zlet_eq, nI_clamp (by omega), show (zthr m' 0).2.2.2.2.2.2.2.2.2.1 i = (zPn A.2.1).2.1.getD i 0 from zfl_at q.2.1 hi]
    exact ⟨_, rfl, rfl, hR⟩
theorem mq_segKind {m : zModel} {A : zAb} (h : zmR m A) (hk : zok A) (a : Int32) : ∃ m', zf_X8_segmentKind 10000 m a = some ((zidx a (zPn A.2.1).2.2.1).2, m') ∧ zf_X8_thrown 10000 m' = some (zidx a (zPn A.2.1).2.2.1).1 ∧ zmR m' A := by
  obtain ⟨m', e, q, s, f⟩ := zm_dec0 h hk
  have hl := (zPn_le hk).2.2.1
  have hR := zmR_fr h f
  unfold zf_X8_segmentKind zidx
  rw [e, Option.bind_some, zm_skb, zm_skb, q.2.2.1.1]
  rcases zm_in a (n := (zPn A.2.1).2.2.1.length) (by omega) with ⟨g, e1⟩ | ⟨i, hi, rfl, g, e1⟩
  · rw [e1, Option.bind_some, if_pos rfl, g, zm_yes (by decide), Option.bind_some, if_neg z10]
    exact ⟨_, rfl, rfl, hR⟩
  · rw [e1, Option.bind_some, if_neg z10, g, zm_no, Option.bind_some, if_pos rfl, if_neg (nI_in (by omega) (by omega)), zlet_eq, nI_clamp (by omega), show (zthr m' 0).2.2.2.2.2.2.2.2.2.2.1 i = (zPn A.2.1).2.2.1.getD i 0 from zfl_at q.2.2.1 hi]
    exact ⟨_, rfl, rfl, hR⟩
end ZMA
