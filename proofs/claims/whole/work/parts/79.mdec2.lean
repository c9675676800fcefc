/-! ===== the pure part: the model decodes, its loop ===== -/
section ZMD2
theorem zm_ob {v0 m : zModel} {W : List (List Int32)} {l : List Int32} {P : zPr} (h : zmQ W l m P) (hS : m.2.2.2.2.2.2.2.2.2.2.2.2.2.2.1 = P.2.2.2.2.1) (hbit : zbit P.2.2.2.2.1) {u : Int32} (hu : zbit u) (h604 : m.1 604 = u) (rec118 : Int32 → (Nat → Int32) → (Nat → Int32) → Int32 → (Nat → Int32) → Int32 → Int32 → (Nat → Int32) → Int32 → (Nat → Int32) → (Nat → Int32) → (Nat → Int32) → Int32 → Int32 → Int32 → Int32 → (Nat → Int32) → Int32 → Option zModel) (y : Int32) {c : Int32} (hc : zcd c) (hg : zsg c = false) (hl : P.1.length < 201) :
    ∃ m', (if c = 29 then (if m.2.2.2.2.2.2.2.2.2.2.2.2.2.2.1 = 1 then (zf_X8_decodes_b179 10000 v0 rec118 y c m.2.2.2.2.2.2.2.2.2.2.2.2.1 1 m.1 m.2.1 m.2.2.1 m.2.2.2.1 m.2.2.2.2.1 m.2.2.2.2.2.1 m.2.2.2.2.2.2.1 m.2.2.2.2.2.2.2.1 m.2.2.2.2.2.2.2.2.1 m.2.2.2.2.2.2.2.2.2.1 m.2.2.2.2.2.2.2.2.2.2.1 m.2.2.2.2.2.2.2.2.2.2.2.1 m.2.2.2.2.2.2.2.2.2.2.2.2.1 m.2.2.2.2.2.2.2.2.2.2.2.2.2.1 m.2.2.2.2.2.2.2.2.2.2.2.2.2.2.1 m.2.2.2.2.2.2.2.2.2.2.2.2.2.2.2.1 m.2.2.2.2.2.2.2.2.2.2.2.2.2.2.2.2) else (zf_X8_decodes_b178 10000 v0 rec118 y c m.2.2.2.2.2.2.2.2.2.2.2.2.1 m.1 m.2.1 m.2.2.1 m.2.2.2.1 m.2.2.2.2.1 m.2.2.2.2.2.1 m.2.2.2.2.2.2.1 m.2.2.2.2.2.2.2.1 m.2.2.2.2.2.2.2.2.1 m.2.2.2.2.2.2.2.2.2.1 m.2.2.2.2.2.2.2.2.2.2.1 m.2.2.2.2.2.2.2.2.2.2.2.1 m.2.2.2.2.2.2.2.2.2.2.2.2.1 m.2.2.2.2.2.2.2.2.2.2.2.2.2.1 m.2.2.2.2.2.2.2.2.2.2.2.2.2.2.1 m.2.2.2.2.2.2.2.2.2.2.2.2.2.2.2.1 m.2.2.2.2.2.2.2.2.2.2.2.2.2.2.2.2)) else (zf_X8_decodes_b178 10000 v0 rec118 y c m.2.2.2.2.2.2.2.2.2.2.2.2.1 m.1 m.2.1 m.2.2.1 m.2.2.2.1 m.2.2.2.2.1 m.2.2.2.2.2.1 m.2.2.2.2.2.2.1 m.2.2.2.2.2.2.2.1 m.2.2.2.2.2.2.2.2.1 m.2.2.2.2.2.2.2.2.2.1 m.2.2.2.2.2.2.2.2.2.2.1 m.2.2.2.2.2.2.2.2.2.2.2.1 m.2.2.2.2.2.2.2.2.2.2.2.2.1 m.2.2.2.2.2.2.2.2.2.2.2.2.2.1 m.2.2.2.2.2.2.2.2.2.2.2.2.2.2.1 m.2.2.2.2.2.2.2.2.2.2.2.2.2.2.2.1 m.2.2.2.2.2.2.2.2.2.2.2.2.2.2.2.2)) = rec118 (y + 1) m'.1 m'.2.1 m'.2.2.1 m'.2.2.2.1 m'.2.2.2.2.1 m'.2.2.2.2.2.1 m'.2.2.2.2.2.2.1 m'.2.2.2.2.2.2.2.1 m'.2.2.2.2.2.2.2.2.1 m'.2.2.2.2.2.2.2.2.2.1 m'.2.2.2.2.2.2.2.2.2.2.1 m'.2.2.2.2.2.2.2.2.2.2.2.1 m'.2.2.2.2.2.2.2.2.2.2.2.2.1 m'.2.2.2.2.2.2.2.2.2.2.2.2.2.1 m'.2.2.2.2.2.2.2.2.2.2.2.2.2.2.1 m'.2.2.2.2.2.2.2.2.2.2.2.2.2.2.2.1 m'.2.2.2.2.2.2.2.2.2.2.2.2.2.2.2.2 ∧ zmQ W l m' (zobey u c P) ∧ m'.2.2.2.2.2.2.2.2.2.2.2.2.2.2.1 = (zobey u c P).2.2.2.2.1 ∧ zmfr m m' := by
  have fin : ∀ (k : zModel) (b q : Int32), k = (m.1, m.2.1, m.2.2.1, m.2.2.2.1, m.2.2.2.2.1, m.2.2.2.2.2.1, m.2.2.2.2.2.2.1, m.2.2.2.2.2.2.2.1, m.2.2.2.2.2.2.2.2.1, m.2.2.2.2.2.2.2.2.2.1, m.2.2.2.2.2.2.2.2.2.2.1, m.2.2.2.2.2.2.2.2.2.2.2.1, b, q, m.2.2.2.2.2.2.2.2.2.2.2.2.2.2) → b = (if c = 29 ∧ P.2.2.2.2.1 = 1 then P.2.2.2.2.2.1 + 1 else P.2.2.2.2.2.1) → q = (if c = 29 ∧ ¬ P.2.2.2.2.1 = 1 then P.2.2.2.2.2.2 + 1 else P.2.2.2.2.2.2) →
      ∃ m', (if c = 27 then (zf_X8_decodes_b225 10000 v0 rec118 y c k.1 k.2.1 k.2.2.1 k.2.2.2.1 k.2.2.2.2.1 k.2.2.2.2.2.1 k.2.2.2.2.2.2.1 k.2.2.2.2.2.2.2.1 k.2.2.2.2.2.2.2.2.1 k.2.2.2.2.2.2.2.2.2.1 k.2.2.2.2.2.2.2.2.2.2.1 k.2.2.2.2.2.2.2.2.2.2.2.1 k.2.2.2.2.2.2.2.2.2.2.2.2.1 k.2.2.2.2.2.2.2.2.2.2.2.2.2.1 k.2.2.2.2.2.2.2.2.2.2.2.2.2.2.1 k.2.2.2.2.2.2.2.2.2.2.2.2.2.2.2.1 k.2.2.2.2.2.2.2.2.2.2.2.2.2.2.2.2) else (if c = 28 then (zf_X8_decodes_b225 10000 v0 rec118 y c k.1 k.2.1 k.2.2.1 k.2.2.2.1 k.2.2.2.2.1 k.2.2.2.2.2.1 k.2.2.2.2.2.2.1 k.2.2.2.2.2.2.2.1 k.2.2.2.2.2.2.2.2.1 k.2.2.2.2.2.2.2.2.2.1 k.2.2.2.2.2.2.2.2.2.2.1 k.2.2.2.2.2.2.2.2.2.2.2.1 k.2.2.2.2.2.2.2.2.2.2.2.2.1 k.2.2.2.2.2.2.2.2.2.2.2.2.2.1 k.2.2.2.2.2.2.2.2.2.2.2.2.2.2.1 k.2.2.2.2.2.2.2.2.2.2.2.2.2.2.2.1 k.2.2.2.2.2.2.2.2.2.2.2.2.2.2.2.2) else (zf_X8_decodes_b243 10000 v0 rec118 y c k.1 k.2.1 k.2.2.1 k.2.2.2.1 k.2.2.2.2.1 k.2.2.2.2.2.1 k.2.2.2.2.2.2.1 k.2.2.2.2.2.2.2.1 k.2.2.2.2.2.2.2.2.1 k.2.2.2.2.2.2.2.2.2.1 k.2.2.2.2.2.2.2.2.2.2.1 k.2.2.2.2.2.2.2.2.2.2.2.1 k.2.2.2.2.2.2.2.2.2.2.2.2.1 k.2.2.2.2.2.2.2.2.2.2.2.2.2.1 k.2.2.2.2.2.2.2.2.2.2.2.2.2.2.1 k.2.2.2.2.2.2.2.2.2.2.2.2.2.2.2.1 k.2.2.2.2.2.2.2.2.2.2.2.2.2.2.2.2))) = rec118 (y + 1) m'.1 m'.2.1 m'.2.2.1 m'.2.2.2.1 m'.2.2.2.2.1 m'.2.2.2.2.2.1 m'.2.2.2.2.2.2.1 m'.2.2.2.2.2.2.2.1 m'.2.2.2.2.2.2.2.2.1 m'.2.2.2.2.2.2.2.2.2.1 m'.2.2.2.2.2.2.2.2.2.2.1 m'.2.2.2.2.2.2.2.2.2.2.2.1 m'.2.2.2.2.2.2.2.2.2.2.2.2.1 m'.2.2.2.2.2.2.2.2.2.2.2.2.2.1 m'.2.2.2.2.2.2.2.2.2.2.2.2.2.2.1 m'.2.2.2.2.2.2.2.2.2.2.2.2.2.2.2.1 m'.2.2.2.2.2.2.2.2.2.2.2.2.2.2.2.2 ∧ zmQ W l m' (zobey u c P) ∧ m'.2.2.2.2.2.2.2.2.2.2.2.2.2.2.1 = (zobey u c P).2.2.2.2.1 ∧ zmfr m m' := by
    intro k b q hk hb hq
    have hkQ : zmQ W l k (P.1, P.2.1, P.2.2.1, P.2.2.2.1, P.2.2.2.2.1, b, q) := by
      rw [hk]
      obtain ⟨h1, h2, h3, h4, h5, h6, h7, h8, h9⟩ := h
      exact ⟨h1, h2, h3, h4, h5, rfl, rfl, h8, h9⟩
    have hks : k.2.2.2.2.2.2.2.2.2.2.2.2.2.2.1 = P.2.2.2.2.1 := by rw [hk]; exact hS
    have hk6 : k.1 604 = u := by rw [hk]; exact h604
    have hkf : zmfr m k := by rw [hk]; exact ⟨rfl, rfl, rfl, rfl, rfl, rfl⟩
    obtain ⟨m', g1, g2, g3, g4⟩ := zm_b207 (v0 := v0) hkQ hks hbit hu hk6 rec118 y hc hg hl
    refine ⟨m', g1, ?_, g3, hkf.tr g4⟩
    unfold zobey
    rw [← hb, ← hq]
    exact g2
  have hbe := h.2.2.2.2.2.1
  have hqu := h.2.2.2.2.2.2.1
  unfold zf_X8_decodes_b178 zf_X8_decodes_b179 zf_X8_decodes_b206 zf_X8_decodes_b207
  by_cases c1 : c = 29
  · by_cases c2 : P.2.2.2.2.1 = 1
    · rw [if_pos c1, if_pos (show m.2.2.2.2.2.2.2.2.2.2.2.2.2.2.1 = 1 by rw [hS]; exact c2), zlet_eq, if_pos c1, if_neg (show ¬ m.2.2.2.2.2.2.2.2.2.2.2.2.2.2.1 = 0 by rw [hS, c2]; decide), zlet_eq, Int32.add_zero]
      exact fin (m.1, m.2.1, m.2.2.1, m.2.2.2.1, m.2.2.2.2.1, m.2.2.2.2.2.1, m.2.2.2.2.2.2.1, m.2.2.2.2.2.2.2.1, m.2.2.2.2.2.2.2.2.1, m.2.2.2.2.2.2.2.2.2.1, m.2.2.2.2.2.2.2.2.2.2.1, m.2.2.2.2.2.2.2.2.2.2.2.1, m.2.2.2.2.2.2.2.2.2.2.2.2.1 + 1, m.2.2.2.2.2.2.2.2.2.2.2.2.2.1, m.2.2.2.2.2.2.2.2.2.2.2.2.2.2) _ _ rfl (by rw [if_pos ⟨c1, c2⟩, hbe]) (by rw [if_neg (fun h => h.2 c2)]; exact hqu)
    · have c3 : P.2.2.2.2.1 = 0 := hbit.elim (fun h => h) (fun h => absurd h c2)
      rw [if_pos c1, if_neg (show ¬ m.2.2.2.2.2.2.2.2.2.2.2.2.2.2.1 = 1 by rw [hS]; exact c2), zlet_eq, if_pos c1, if_pos (show m.2.2.2.2.2.2.2.2.2.2.2.2.2.2.1 = 0 by rw [hS]; exact c3), zlet_eq, Int32.add_zero]
      exact fin (m.1, m.2.1, m.2.2.1, m.2.2.2.1, m.2.2.2.2.1, m.2.2.2.2.2.1, m.2.2.2.2.2.2.1, m.2.2.2.2.2.2.2.1, m.2.2.2.2.2.2.2.2.1, m.2.2.2.2.2.2.2.2.2.1, m.2.2.2.2.2.2.2.2.2.2.1, m.2.2.2.2.2.2.2.2.2.2.2.1, m.2.2.2.2.2.2.2.2.2.2.2.2.1, m.2.2.2.2.2.2.2.2.2.2.2.2.2.1 + 1, m.2.2.2.2.2.2.2.2.2.2.2.2.2.2) _ _ rfl (by rw [if_neg (fun h => c2 h.2)]; exact hbe) (by rw [if_pos ⟨c1, c2⟩, hqu])
  · rw [if_neg c1, zlet_eq, if_neg c1, zlet_eq, Int32.add_zero, Int32.add_zero]
    exact fin (m.1, m.2.1, m.2.2.1, m.2.2.2.1, m.2.2.2.2.1, m.2.2.2.2.2.1, m.2.2.2.2.2.2.1, m.2.2.2.2.2.2.2.1, m.2.2.2.2.2.2.2.2.1, m.2.2.2.2.2.2.2.2.2.1, m.2.2.2.2.2.2.2.2.2.2.1, m.2.2.2.2.2.2.2.2.2.2.2.1, m.2.2.2.2.2.2.2.2.2.2.2.2.1, m.2.2.2.2.2.2.2.2.2.2.2.2.2.1, m.2.2.2.2.2.2.2.2.2.2.2.2.2.2) _ _ rfl (by rw [if_neg (fun h => c1 h.1)]; exact hbe) (by rw [if_neg (fun h => c1 h.1)]; exact hqu)
theorem zen_all (l : List Int32) (a : Nat) : ∀ j : Nat, a ≤ j → j < zen l a → zsg (l.getD j 0) = true := by
  intro j h1 h2
  unfold zen at h2
  have hj : j - a < ((l.drop a).takeWhile zsg).length := by omega
  have hm : ((l.drop a).takeWhile zsg)[j - a] ∈ (l.drop a).takeWhile zsg := List.getElem_mem hj
  have hz : zsg ((l.drop a).takeWhile zsg)[j - a] = true := (List.all_takeWhile (p := zsg) (l := l.drop a) |> List.all_eq_true.mp) _ hm
  have hle : ((l.drop a).takeWhile zsg).length ≤ (l.drop a).length := (List.takeWhile_sublist _).length_le
  rw [List.length_drop] at hle
  have he : ((l.drop a).takeWhile zsg)[j - a] = l.getD j 0 := by
    have e1 : ((l.drop a).takeWhile zsg)[j - a]? = (l.drop a)[j - a]? := by
      rw [ztakew_eq (l.drop a), List.getElem?_take_of_lt hj]
    rw [List.getElem?_eq_getElem hj, List.getElem?_drop, show a + (j - a) = j by omega] at e1
    rw [List.getD_eq_getElem?_getD, ← e1]
    rfl
  rw [← he]
  exact hz
theorem zm_dL {v0 : zModel} {W : List (List Int32)} (h20 : W.length ≤ 20) (hwd : ∀ w ∈ W, zwd w) {l : List Int32} (h201 : l.length ≤ 201) (hg : ∀ c ∈ l, zcd c) {u : Int32} (hu : zbit u) : ∀ (n a : Nat) (m : zModel) (P : zPr), a ≤ l.length → l.length - a < n → zmw m.1 W → m.1 604 = u → zmQ W l m P → m.2.2.2.2.2.2.2.2.2.2.2.2.2.2.1 = P.2.2.2.2.1 → zbit P.2.2.2.2.1 → zle P a →
    ∃ m', zf_X8_decodes_L118 10000 v0 n (nI a) m.1 m.2.1 m.2.2.1 m.2.2.2.1 m.2.2.2.2.1 m.2.2.2.2.2.1 m.2.2.2.2.2.2.1 m.2.2.2.2.2.2.2.1 m.2.2.2.2.2.2.2.2.1 m.2.2.2.2.2.2.2.2.2.1 m.2.2.2.2.2.2.2.2.2.2.1 m.2.2.2.2.2.2.2.2.2.2.2.1 m.2.2.2.2.2.2.2.2.2.2.2.2.1 m.2.2.2.2.2.2.2.2.2.2.2.2.2.1 m.2.2.2.2.2.2.2.2.2.2.2.2.2.2.1 m.2.2.2.2.2.2.2.2.2.2.2.2.2.2.2.1 m.2.2.2.2.2.2.2.2.2.2.2.2.2.2.2.2 = some m' ∧ zmQ W l m' (zdec (W.map zpk) u [] (l.drop a) P) ∧ m'.2.2.2.2.2.2.2.2.2.2.2.2.2.2.1 = (zdec (W.map zpk) u [] (l.drop a) P).2.2.2.2.1 ∧ zmfr m m'
  | 0, a, m, P, ha, hn, hm, h604, h, hS, hbit, hp => absurd hn (Nat.not_lt_zero _)
  | n + 1, a, m, P, ha, hn, hm, h604, h, hS, hbit, hp => by
    have hc8 := h.2.2.2.2.2.2.2.1
    by_cases hal : a = l.length
    · unfold zf_X8_decodes_L118
      rw [if_pos (show m.2.2.2.2.2.2.2.2.2.2.2.2.2.2.2.2 ≤ nI a by rw [hc8.1]; exact nI_le (by omega) (by omega)), List.drop_of_length_le (by omega)]
      exact ⟨m, rfl, h, hS, zmfr.rf m⟩
    have hi : a < l.length := by omega
    have hx : m.2.2.2.2.2.2.2.2.2.2.2.2.2.2.2.1 a = l[a] := by
      have := hc8.2 a hi
      rw [List.getElem?_eq_getElem hi] at this
      exact (Option.some.inj this).symm
    have hcd := hg _ (List.getElem_mem hi)
    unfold zf_X8_decodes_L118
    rw [if_neg (show ¬ m.2.2.2.2.2.2.2.2.2.2.2.2.2.2.2.2 ≤ nI a by rw [hc8.1]; exact nI_ge hi (by omega)), if_neg (nI_in (by omega) (by omega)), zlet_eq, nI_clamp (by omega), hx, zsg_m, Option.bind_some]
    cases hgs : zsg l[a] with
    | false =>
      rw [if_neg (show ¬ (false = true) by decide), if_pos rfl]
      obtain ⟨m2, g1, g2, g3, g4⟩ := zm_ob (v0 := v0) h hS hbit hu h604 (zf_X8_decodes_L118 10000 v0 n) (nI a) hcd hgs (by have := hp.1; omega)
      have hm2 : m2.1 = m.1 := g4.1
      have hz : zdec (W.map zpk) u [] (l.drop a) P = zdec (W.map zpk) u [] (l.drop (a + 1)) (zobey u l[a] P) := by
        rw [List.drop_eq_getElem_cons hi, zdec, if_neg (by rw [hgs]; decide)]
        rfl
      obtain ⟨m', k1, k2, k3, k4⟩ := zm_dL (v0 := v0) h20 hwd h201 hg hu n (a + 1) m2 (zobey u l[a] P) (by omega) (by omega) (by rw [hm2]; exact hm) (by rw [hm2]; exact h604) g2 g3 (zd_beh hbit) (by
        obtain ⟨q1, q2, q3, q4⟩ := hp
        refine ⟨?_, by show P.2.1.length ≤ _; omega, by show P.2.2.1.length ≤ _; omega, by show P.2.2.2.1.length ≤ _; omega⟩
        unfold zobey
        show (if _ then _ else _ : List Int32).length ≤ _
        split
        · omega
        · rw [List.length_append]; simp only [List.length_cons, List.length_nil]; omega)
      rw [hz]
      exact ⟨m', g1.trans (by rw [nI_1]; exact k1), k2, k3, g4.tr k4⟩
    | true =>
      rw [if_pos rfl, if_neg z10]
      have hrun : ((l.drop a).takeWhile zsg).length = zen l a - a := by unfold zen; omega
      have hz1 : a < zen l a := by
        unfold zen
        rw [List.drop_eq_getElem_cons hi, List.takeWhile_cons_of_pos hgs, List.length_cons]
        omega
      have hz2 := zen_le l ha
      have htk : (l.drop a).take (zen l a - a) = (l.drop a).takeWhile zsg := by rw [← hrun]; exact (ztakew_eq _).symm
      have hlen : ((l.drop a).take (zen l a - a)).length = zen l a - a := by rw [List.length_take, List.length_drop]; omega
      obtain ⟨m2, g1, g2, g3, g4⟩ := zm_sg hm h20 hwd h hS hbit h201 hg (a := a) (d := zen l a - a) (by omega) (by omega) (by omega) (fun j h1 h2 => zen_all l a j h1 (by omega)) hp
      rw [show zf_X8_segment 10000 (m.1, m.2.1, m.2.2.1, m.2.2.2.1, m.2.2.2.2.1, m.2.2.2.2.2.1, m.2.2.2.2.2.2.1, m.2.2.2.2.2.2.2.1, m.2.2.2.2.2.2.2.2.1, m.2.2.2.2.2.2.2.2.2.1, m.2.2.2.2.2.2.2.2.2.2.1, m.2.2.2.2.2.2.2.2.2.2.2.1, m.2.2.2.2.2.2.2.2.2.2.2.2.1, m.2.2.2.2.2.2.2.2.2.2.2.2.2.1, m.2.2.2.2.2.2.2.2.2.2.2.2.2.2.1, m.2.2.2.2.2.2.2.2.2.2.2.2.2.2.2.1, m.2.2.2.2.2.2.2.2.2.2.2.2.2.2.2.2) (nI a) = some (nI (a + (zen l a - a)), m2) from g1, Option.bind_some]
      unfold zf_X8_decodes_b295
      have hm2 : m2.1 = m.1 := g4.1
      have hz : zdec (W.map zpk) u [] (l.drop a) P = zdec (W.map zpk) u [] (l.drop (a + (zen l a - a))) (zseg (W.map zpk) ((l.drop a).take (zen l a - a)) P) := by
        rw [zdec_seg, zdropw_eq, hrun, List.drop_drop, htk]
        obtain ⟨x, xs, hxs⟩ : ∃ x xs, (l.drop a).takeWhile zsg = x :: xs := by
          rw [List.drop_eq_getElem_cons hi, List.takeWhile_cons_of_pos hgs]
          exact ⟨_, _, rfl⟩
        rw [hxs]
        rfl
      obtain ⟨m', k1, k2, k3, k4⟩ := zm_dL (v0 := v0) h20 hwd h201 hg hu n (a + (zen l a - a)) m2 (zseg (W.map zpk) ((l.drop a).take (zen l a - a)) P) (by omega) (by omega) (by rw [hm2]; exact hm) (by rw [hm2]; exact h604) g2 g3 (zkd_bit hbit) (by
        obtain ⟨q1, q2, q3, q4⟩ := hp
        unfold zle zseg
        simp only [List.length_append, List.length_map, hlen, List.length_cons, List.length_nil]
        exact ⟨by omega, by omega, by omega, by omega⟩)
      rw [hz]
      exact ⟨m', k1, k2, k3, g4.tr k4⟩
end ZMD2
