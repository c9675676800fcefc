/-! ===== the pure part: the model decodes ===== -/
section ZMD
theorem zdec_run (ws : List Int32) (u : Int32) : ∀ (l run : List Int32) (P : zPr), zdec ws u run l P = zdec ws u (run ++ l.takeWhile zsg) (l.dropWhile zsg) P
  | [], run, P => by rw [List.takeWhile_nil, List.dropWhile_nil, List.append_nil]
  | c :: cs, run, P => by
    cases hg : zsg c with
    | false => rw [List.takeWhile_cons_of_neg (by rw [hg]; decide), List.dropWhile_cons_of_neg (by rw [hg]; decide), List.append_nil]
    | true =>
      rw [List.takeWhile_cons_of_pos hg, List.dropWhile_cons_of_pos hg]
      have := zdec_run ws u cs (run ++ [c]) P
      rw [List.append_assoc] at this
      rw [zdec, if_pos hg]
      exact this
theorem zdec_cut (ws : List Int32) (u : Int32) {l run : List Int32} {P : zPr} (h : ∀ c cs, l = c :: cs → zsg c = false) : zdec ws u run l P = zdec ws u [] l (zsegE ws run P) := by
  cases l with
  | nil => rfl
  | cons c cs =>
    have hg := h c cs rfl
    rw [zdec, zdec, if_neg (by rw [hg]; decide), if_neg (by rw [hg]; decide)]
    rfl
theorem zdropw (l : List Int32) : ∀ c cs, l.dropWhile zsg = c :: cs → zsg c = false := by
  intro c cs h
  induction l with
  | nil => rw [List.dropWhile_nil] at h; exact absurd h (by simp)
  | cons x l ih =>
    cases hg : zsg x with
    | true => rw [List.dropWhile_cons_of_pos hg] at h; exact ih h
    | false =>
      rw [List.dropWhile_cons_of_neg (by rw [hg]; decide)] at h
      rw [← (List.cons.inj h).1]
      exact hg
theorem zdec_seg (ws : List Int32) (u : Int32) (l : List Int32) (P : zPr) : zdec ws u [] l P = zdec ws u [] (l.dropWhile zsg) (zsegE ws (l.takeWhile zsg) P) := by
  rw [zdec_run, List.nil_append]
  exact zdec_cut ws u (zdropw l)
theorem zdropw_eq (l : List Int32) : l.dropWhile zsg = l.drop (l.takeWhile zsg).length := by
  induction l with
  | nil => rfl
  | cons x l ih =>
    cases hg : zsg x with
    | true => rw [List.dropWhile_cons_of_pos hg, List.takeWhile_cons_of_pos hg, List.length_cons, List.drop_succ_cons]; exact ih
    | false => rw [List.dropWhile_cons_of_neg (by rw [hg]; decide), List.takeWhile_cons_of_neg (by rw [hg]; decide)]; rfl
theorem ztakew_eq (l : List Int32) : l.takeWhile zsg = l.take (l.takeWhile zsg).length := by
  induction l with
  | nil => rfl
  | cons x l ih =>
    cases hg : zsg x with
    | true => rw [List.takeWhile_cons_of_pos hg, List.length_cons, List.take_succ_cons, ← ih]
    | false => rw [List.takeWhile_cons_of_neg (by rw [hg]; decide)]; rfl
theorem zm_b243 {v0 m : zModel} {u : Int32} (hu : zbit u) (h604 : m.1 604 = u) (rec118 : Int32 → (Nat → Int32) → (Nat → Int32) → Int32 → (Nat → Int32) → Int32 → Int32 → (Nat → Int32) → Int32 → (Nat → Int32) → (Nat → Int32) → (Nat → Int32) → Int32 → Int32 → Int32 → Int32 → (Nat → Int32) → Int32 → Option zModel) (y c : Int32) :
    ∃ m', zf_X8_decodes_b243 10000 v0 rec118 y c m.1 m.2.1 m.2.2.1 m.2.2.2.1 m.2.2.2.2.1 m.2.2.2.2.2.1 m.2.2.2.2.2.2.1 m.2.2.2.2.2.2.2.1 m.2.2.2.2.2.2.2.2.1 m.2.2.2.2.2.2.2.2.2.1 m.2.2.2.2.2.2.2.2.2.2.1 m.2.2.2.2.2.2.2.2.2.2.2.1 m.2.2.2.2.2.2.2.2.2.2.2.2.1 m.2.2.2.2.2.2.2.2.2.2.2.2.2.1 m.2.2.2.2.2.2.2.2.2.2.2.2.2.2.1 m.2.2.2.2.2.2.2.2.2.2.2.2.2.2.2.1 m.2.2.2.2.2.2.2.2.2.2.2.2.2.2.2.2 = rec118 (y + 1) m'.1 m'.2.1 m'.2.2.1 m'.2.2.2.1 m'.2.2.2.2.1 m'.2.2.2.2.2.1 m'.2.2.2.2.2.2.1 m'.2.2.2.2.2.2.2.1 m'.2.2.2.2.2.2.2.2.1 m'.2.2.2.2.2.2.2.2.2.1 m'.2.2.2.2.2.2.2.2.2.2.1 m'.2.2.2.2.2.2.2.2.2.2.2.1 m'.2.2.2.2.2.2.2.2.2.2.2.2.1 m'.2.2.2.2.2.2.2.2.2.2.2.2.2.1 m'.2.2.2.2.2.2.2.2.2.2.2.2.2.2.1 m'.2.2.2.2.2.2.2.2.2.2.2.2.2.2.2.1 m'.2.2.2.2.2.2.2.2.2.2.2.2.2.2.2.2 ∧ m' = (m.1, m.2.1, m.2.2.1, m.2.2.2.1, m.2.2.2.2.1, m.2.2.2.2.2.1, m.2.2.2.2.2.2.1, m.2.2.2.2.2.2.2.1, m.2.2.2.2.2.2.2.2.1, m.2.2.2.2.2.2.2.2.2.1, m.2.2.2.2.2.2.2.2.2.2.1, m.2.2.2.2.2.2.2.2.2.2.2.1, m.2.2.2.2.2.2.2.2.2.2.2.2.1, m.2.2.2.2.2.2.2.2.2.2.2.2.2.1, zbeh c m.2.2.2.2.2.2.2.2.2.2.2.2.2.2.1 u, m.2.2.2.2.2.2.2.2.2.2.2.2.2.2.2) := by
  refine ⟨_, ?_, rfl⟩
  unfold zf_X8_decodes_b243 zf_X8_decodes_b281 zf_X8_decodes_b285 zf_X8_decodes_b289 zf_X8_decodes_b295 zbeh
  by_cases c1 : c = 30
  · rw [if_pos c1, if_pos c1, zlet_eq] <;> rfl
  rw [if_neg c1, if_neg c1]
  by_cases c2 : c = 31
  · rw [if_pos c2, if_pos c2, zlet_eq] <;> rfl
  rw [if_neg c2, if_neg c2]
  by_cases c3 : c = 27
  · rw [if_pos c3, if_pos c3, zlet_eq, h604]
    rcases hu with rfl | rfl
    · rw [if_neg (show ¬ (0 : Int32) = 1 by decide), if_pos rfl, zlet_eq] <;> rfl
    · rw [if_pos rfl, if_neg z10, zlet_eq] <;> rfl
  · rw [if_neg c3, if_neg c3, zlet_eq]
    split <;> rfl
theorem zchr_no {c s : Int32} (hc : zcd c) (hs : zbit s) (hg : zsg c = false) : zchr c s = if c = 27 then 32 else if c = 28 then 10 else -1 := by
  obtain ⟨k, hk, rfl⟩ := hc
  have e27 : nI k = 27 ↔ k = 27 := nI_eq (b := 27) (by omega) (by omega)
  have e28 : nI k = 28 ↔ k = 28 := nI_eq (b := 28) (by omega) (by omega)
  simp only [e27, e28]
  rcases hs with rfl | rfl
  · exact (zchr_fin k hk 0 (by omega)).2.2 hg
  · exact (zchr_fin k hk 1 (by omega)).2.2 hg
theorem zmQ_sh {W : List (List Int32)} {l : List Int32} {m : zModel} {P : zPr} (h : zmQ W l m P) (x y : Int32) : zmQ W l (m.1, m.2.1, m.2.2.1, m.2.2.2.1, m.2.2.2.2.1, m.2.2.2.2.2.1, m.2.2.2.2.2.2.1, m.2.2.2.2.2.2.2.1, m.2.2.2.2.2.2.2.2.1, m.2.2.2.2.2.2.2.2.2.1, m.2.2.2.2.2.2.2.2.2.2.1, m.2.2.2.2.2.2.2.2.2.2.2.1, m.2.2.2.2.2.2.2.2.2.2.2.2.1, m.2.2.2.2.2.2.2.2.2.2.2.2.2.1, x, m.2.2.2.2.2.2.2.2.2.2.2.2.2.2.2) (P.1, P.2.1, P.2.2.1, P.2.2.2.1, y, P.2.2.2.2.2) := h
theorem zm_b207 {v0 m : zModel} {W : List (List Int32)} {l : List Int32} {P : zPr} (h : zmQ W l m P) (hS : m.2.2.2.2.2.2.2.2.2.2.2.2.2.2.1 = P.2.2.2.2.1) (hbit : zbit P.2.2.2.2.1) {u : Int32} (hu : zbit u) (h604 : m.1 604 = u) (rec118 : Int32 → (Nat → Int32) → (Nat → Int32) → Int32 → (Nat → Int32) → Int32 → Int32 → (Nat → Int32) → Int32 → (Nat → Int32) → (Nat → Int32) → (Nat → Int32) → Int32 → Int32 → Int32 → Int32 → (Nat → Int32) → Int32 → Option zModel) (y : Int32) {c : Int32} (hc : zcd c) (hg : zsg c = false) (hl : P.1.length < 201) :
    ∃ m', (if c = 27 then (zf_X8_decodes_b225 10000 v0 rec118 y c m.1 m.2.1 m.2.2.1 m.2.2.2.1 m.2.2.2.2.1 m.2.2.2.2.2.1 m.2.2.2.2.2.2.1 m.2.2.2.2.2.2.2.1 m.2.2.2.2.2.2.2.2.1 m.2.2.2.2.2.2.2.2.2.1 m.2.2.2.2.2.2.2.2.2.2.1 m.2.2.2.2.2.2.2.2.2.2.2.1 m.2.2.2.2.2.2.2.2.2.2.2.2.1 m.2.2.2.2.2.2.2.2.2.2.2.2.2.1 m.2.2.2.2.2.2.2.2.2.2.2.2.2.2.1 m.2.2.2.2.2.2.2.2.2.2.2.2.2.2.2.1 m.2.2.2.2.2.2.2.2.2.2.2.2.2.2.2.2) else (if c = 28 then (zf_X8_decodes_b225 10000 v0 rec118 y c m.1 m.2.1 m.2.2.1 m.2.2.2.1 m.2.2.2.2.1 m.2.2.2.2.2.1 m.2.2.2.2.2.2.1 m.2.2.2.2.2.2.2.1 m.2.2.2.2.2.2.2.2.1 m.2.2.2.2.2.2.2.2.2.1 m.2.2.2.2.2.2.2.2.2.2.1 m.2.2.2.2.2.2.2.2.2.2.2.1 m.2.2.2.2.2.2.2.2.2.2.2.2.1 m.2.2.2.2.2.2.2.2.2.2.2.2.2.1 m.2.2.2.2.2.2.2.2.2.2.2.2.2.2.1 m.2.2.2.2.2.2.2.2.2.2.2.2.2.2.2.1 m.2.2.2.2.2.2.2.2.2.2.2.2.2.2.2.2) else (zf_X8_decodes_b243 10000 v0 rec118 y c m.1 m.2.1 m.2.2.1 m.2.2.2.1 m.2.2.2.2.1 m.2.2.2.2.2.1 m.2.2.2.2.2.2.1 m.2.2.2.2.2.2.2.1 m.2.2.2.2.2.2.2.2.1 m.2.2.2.2.2.2.2.2.2.1 m.2.2.2.2.2.2.2.2.2.2.1 m.2.2.2.2.2.2.2.2.2.2.2.1 m.2.2.2.2.2.2.2.2.2.2.2.2.1 m.2.2.2.2.2.2.2.2.2.2.2.2.2.1 m.2.2.2.2.2.2.2.2.2.2.2.2.2.2.1 m.2.2.2.2.2.2.2.2.2.2.2.2.2.2.2.1 m.2.2.2.2.2.2.2.2.2.2.2.2.2.2.2.2))) = rec118 (y + 1) m'.1 m'.2.1 m'.2.2.1 m'.2.2.2.1 m'.2.2.2.2.1 m'.2.2.2.2.2.1 m'.2.2.2.2.2.2.1 m'.2.2.2.2.2.2.2.1 m'.2.2.2.2.2.2.2.2.1 m'.2.2.2.2.2.2.2.2.2.1 m'.2.2.2.2.2.2.2.2.2.2.1 m'.2.2.2.2.2.2.2.2.2.2.2.1 m'.2.2.2.2.2.2.2.2.2.2.2.2.1 m'.2.2.2.2.2.2.2.2.2.2.2.2.2.1 m'.2.2.2.2.2.2.2.2.2.2.2.2.2.2.1 m'.2.2.2.2.2.2.2.2.2.2.2.2.2.2.2.1 m'.2.2.2.2.2.2.2.2.2.2.2.2.2.2.2.2 ∧ zmQ W l m' (if zchr c P.2.2.2.2.1 = -1 then P.1 else P.1 ++ [zchr c P.2.2.2.2.1], P.2.1, P.2.2.1, P.2.2.2.1, zbeh c P.2.2.2.2.1 u, P.2.2.2.2.2) ∧ m'.2.2.2.2.2.2.2.2.2.2.2.2.2.2.1 = zbeh c P.2.2.2.2.1 u ∧ zmfr m m' := by
  have b240 : ∀ x : Int32, zchr c P.2.2.2.2.1 = x → ¬ x = -1 → ∃ m', zf_X8_decodes_b240 10000 v0 rec118 y c x m.1 m.2.1 m.2.2.1 m.2.2.2.1 m.2.2.2.2.1 m.2.2.2.2.2.1 m.2.2.2.2.2.2.1 m.2.2.2.2.2.2.2.1 m.2.2.2.2.2.2.2.2.1 m.2.2.2.2.2.2.2.2.2.1 m.2.2.2.2.2.2.2.2.2.2.1 m.2.2.2.2.2.2.2.2.2.2.2.1 m.2.2.2.2.2.2.2.2.2.2.2.2.1 m.2.2.2.2.2.2.2.2.2.2.2.2.2.1 m.2.2.2.2.2.2.2.2.2.2.2.2.2.2.1 m.2.2.2.2.2.2.2.2.2.2.2.2.2.2.2.1 m.2.2.2.2.2.2.2.2.2.2.2.2.2.2.2.2 = rec118 (y + 1) m'.1 m'.2.1 m'.2.2.1 m'.2.2.2.1 m'.2.2.2.2.1 m'.2.2.2.2.2.1 m'.2.2.2.2.2.2.1 m'.2.2.2.2.2.2.2.1 m'.2.2.2.2.2.2.2.2.1 m'.2.2.2.2.2.2.2.2.2.1 m'.2.2.2.2.2.2.2.2.2.2.1 m'.2.2.2.2.2.2.2.2.2.2.2.1 m'.2.2.2.2.2.2.2.2.2.2.2.2.1 m'.2.2.2.2.2.2.2.2.2.2.2.2.2.1 m'.2.2.2.2.2.2.2.2.2.2.2.2.2.2.1 m'.2.2.2.2.2.2.2.2.2.2.2.2.2.2.2.1 m'.2.2.2.2.2.2.2.2.2.2.2.2.2.2.2.2 ∧ zmQ W l m' (if zchr c P.2.2.2.2.1 = -1 then P.1 else P.1 ++ [zchr c P.2.2.2.2.1], P.2.1, P.2.2.1, P.2.2.2.1, zbeh c P.2.2.2.2.1 u, P.2.2.2.2.2) ∧ m'.2.2.2.2.2.2.2.2.2.2.2.2.2.2.1 = zbeh c P.2.2.2.2.1 u ∧ zmfr m m' := by
    intro x hx hx1
    unfold zf_X8_decodes_b240
    rw [show zf_X8_prints 10000 (m.1, m.2.1, m.2.2.1, m.2.2.2.1, m.2.2.2.2.1, m.2.2.2.2.2.1, m.2.2.2.2.2.2.1, m.2.2.2.2.2.2.2.1, m.2.2.2.2.2.2.2.2.1, m.2.2.2.2.2.2.2.2.2.1, m.2.2.2.2.2.2.2.2.2.2.1, m.2.2.2.2.2.2.2.2.2.2.2.1, m.2.2.2.2.2.2.2.2.2.2.2.2.1, m.2.2.2.2.2.2.2.2.2.2.2.2.2.1, m.2.2.2.2.2.2.2.2.2.2.2.2.2.2.1, m.2.2.2.2.2.2.2.2.2.2.2.2.2.2.2.1, m.2.2.2.2.2.2.2.2.2.2.2.2.2.2.2.2) x = some (m.1, m.2.1, m.2.2.1, m.2.2.2.1, m.2.2.2.2.1, m.2.2.2.2.2.1, upd m.2.2.2.2.2.2.1 P.1.length x, nI (P.1.length + 1), m.2.2.2.2.2.2.2.2) from zm_pr h.1.1 hl x, Option.bind_some]
    obtain ⟨m', g1, g2⟩ := zm_b243 (v0 := v0) (m := (m.1, m.2.1, m.2.2.1, m.2.2.2.1, m.2.2.2.2.1, m.2.2.2.2.2.1, upd m.2.2.2.2.2.2.1 P.1.length x, nI (P.1.length + 1), m.2.2.2.2.2.2.2.2)) hu h604 rec118 y c
    refine ⟨m', g1, ?_, by rw [g2]; show zbeh c m.2.2.2.2.2.2.2.2.2.2.2.2.2.2.1 u = _; rw [hS], by rw [g2]; exact ⟨rfl, rfl, rfl, rfl, rfl, rfl⟩⟩
    rw [g2, hx, if_neg hx1]
    exact ⟨zfl_add h.1 x, h.2⟩
  have b243 : zchr c P.2.2.2.2.1 = -1 → ∃ m', zf_X8_decodes_b243 10000 v0 rec118 y c m.1 m.2.1 m.2.2.1 m.2.2.2.1 m.2.2.2.2.1 m.2.2.2.2.2.1 m.2.2.2.2.2.2.1 m.2.2.2.2.2.2.2.1 m.2.2.2.2.2.2.2.2.1 m.2.2.2.2.2.2.2.2.2.1 m.2.2.2.2.2.2.2.2.2.2.1 m.2.2.2.2.2.2.2.2.2.2.2.1 m.2.2.2.2.2.2.2.2.2.2.2.2.1 m.2.2.2.2.2.2.2.2.2.2.2.2.2.1 m.2.2.2.2.2.2.2.2.2.2.2.2.2.2.1 m.2.2.2.2.2.2.2.2.2.2.2.2.2.2.2.1 m.2.2.2.2.2.2.2.2.2.2.2.2.2.2.2.2 = rec118 (y + 1) m'.1 m'.2.1 m'.2.2.1 m'.2.2.2.1 m'.2.2.2.2.1 m'.2.2.2.2.2.1 m'.2.2.2.2.2.2.1 m'.2.2.2.2.2.2.2.1 m'.2.2.2.2.2.2.2.2.1 m'.2.2.2.2.2.2.2.2.2.1 m'.2.2.2.2.2.2.2.2.2.2.1 m'.2.2.2.2.2.2.2.2.2.2.2.1 m'.2.2.2.2.2.2.2.2.2.2.2.2.1 m'.2.2.2.2.2.2.2.2.2.2.2.2.2.1 m'.2.2.2.2.2.2.2.2.2.2.2.2.2.2.1 m'.2.2.2.2.2.2.2.2.2.2.2.2.2.2.2.1 m'.2.2.2.2.2.2.2.2.2.2.2.2.2.2.2.2 ∧ zmQ W l m' (if zchr c P.2.2.2.2.1 = -1 then P.1 else P.1 ++ [zchr c P.2.2.2.2.1], P.2.1, P.2.2.1, P.2.2.2.1, zbeh c P.2.2.2.2.1 u, P.2.2.2.2.2) ∧ m'.2.2.2.2.2.2.2.2.2.2.2.2.2.2.1 = zbeh c P.2.2.2.2.1 u ∧ zmfr m m' := by
    intro hx
    obtain ⟨m', g1, g2⟩ := zm_b243 (v0 := v0) hu h604 rec118 y c
    refine ⟨m', g1, ?_, by rw [g2]; show zbeh c m.2.2.2.2.2.2.2.2.2.2.2.2.2.2.1 u = _; rw [hS], by rw [g2]; exact ⟨rfl, rfl, rfl, rfl, rfl, rfl⟩⟩
    rw [g2, if_pos hx]
    exact h
  have hch := zchr_no hc hbit hg
  unfold zf_X8_decodes_b225
  by_cases c1 : c = 27
  · rw [if_pos c1, if_pos c1]
    exact b240 32 (by rw [hch, if_pos c1]) (by decide)
  rw [if_neg c1]
  by_cases c2 : c = 28
  · rw [if_pos c2, if_neg c1]
    exact b240 10 (by rw [hch, if_neg c1, if_pos c2]) (by decide)
  · rw [if_neg c2]
    exact b243 (by rw [hch, if_neg c1, if_neg c2])
end ZMD
