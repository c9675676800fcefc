/-! ===== the pure part: the model prints a run of signs ===== -/
section ZMQ
def zfl (f : Nat → Int32) (n : Int32) (l : List Int32) : Prop := n = nI l.length ∧ ∀ i : Nat, i < l.length → l[i]? = some (f i)
theorem zfl_add {f : Nat → Int32} {n : Int32} {l : List Int32} (h : zfl f n l) (x : Int32) : zfl (upd f l.length x) (nI (l.length + 1)) (l ++ [x]) := by
  refine ⟨by rw [List.length_append]; rfl, fun i hi => ?_⟩
  rw [List.length_append] at hi
  simp only [List.length_cons, List.length_nil] at hi
  by_cases e : i = l.length
  · subst e; rw [zud_eq]; simp
  · rw [zud_ne e, List.getElem?_append_left (by omega)]; exact h.2 i (by omega)
/-- what a call that only looks leaves -/
def zmfr (m m' : zModel) : Prop := m'.1 = m.1 ∧ m'.2.1 = m.2.1 ∧ m'.2.2.1 = m.2.2.1 ∧ m'.2.2.2.1 = m.2.2.2.1 ∧ m'.2.2.2.2.1 = m.2.2.2.2.1 ∧ m'.2.2.2.2.2.1 = m.2.2.2.2.2.1
theorem zmfr.rf (m : zModel) : zmfr m m := ⟨rfl, rfl, rfl, rfl, rfl, rfl⟩
theorem zmfr.tr {m m' m2 : zModel} (h : zmfr m m') (g : zmfr m' m2) : zmfr m m2 :=
  ⟨g.1.trans h.1, g.2.1.trans h.2.1, g.2.2.1.trans h.2.2.1, g.2.2.2.1.trans h.2.2.2.1, g.2.2.2.2.1.trans h.2.2.2.2.1, g.2.2.2.2.2.trans h.2.2.2.2.2⟩
theorem zmR_fr {m m' : zModel} {A : zAb} (h : zmR m A) (g : zmfr m m') : zmR m' A := by
  obtain ⟨g1, g2, g3, g4, g5, g6⟩ := g
  obtain ⟨h1, h2, h3, h4, h5⟩ := h
  refine ⟨by rw [g1]; exact h1, by rw [g3]; exact h2, fun i S hS => ?_, by rw [g5]; exact h4, fun i hi => by rw [g4]; exact h5 i hi⟩
  rw [g2]
  exact h3 i S hS
/-- a run that is printed: where it begins, its length, its kind, its word -/
def zqs (W : List (List Int32)) (l : List Int32) (b : Int32) (ln kd wd : Option Int32) : Prop := ∃ (a d : Nat) (s : Int32), 0 < d ∧ a + d ≤ l.length ∧ b = nI a ∧ ln = some (nI d) ∧ (∀ c ∈ (l.drop a).take d, zsg c = true ∧ zcd c) ∧ zbit s ∧ kd = some (zkd (W.map zpk) ((l.drop a).take d) s) ∧ wd = some (if zkd (W.map zpk) ((l.drop a).take d) s &&& 1 = 0 then zfind (zpk ((l.drop a).take d)) (W.map zpk) 0 else -1)
/-- the model's rows of what is printed, but for the shift -/
def zmQ (W : List (List Int32)) (l : List Int32) (m : zModel) (P : zPr) : Prop := zfl m.2.2.2.2.2.2.1 m.2.2.2.2.2.2.2.1 P.1 ∧ zfl m.2.2.2.2.2.2.2.2.2.1 m.2.2.2.2.2.2.2.2.2.2.2.1 P.2.1 ∧ zfl m.2.2.2.2.2.2.2.2.2.2.1 m.2.2.2.2.2.2.2.2.2.2.2.1 P.2.2.1 ∧ P.2.1.length = P.2.2.1.length ∧ P.2.2.2.1.length = P.2.2.1.length ∧ m.2.2.2.2.2.2.2.2.2.2.2.2.1 = P.2.2.2.2.2.1 ∧ m.2.2.2.2.2.2.2.2.2.2.2.2.2.1 = P.2.2.2.2.2.2 ∧ zfl m.2.2.2.2.2.2.2.2.2.2.2.2.2.2.2.1 m.2.2.2.2.2.2.2.2.2.2.2.2.2.2.2.2 l ∧ ∀ i : Nat, i < P.2.2.1.length → zqs W l (m.2.2.2.2.2.2.2.2.1 i) P.2.1[i]? P.2.2.1[i]? P.2.2.2.1[i]?
theorem zm_pr {m : zModel} {L : Nat} (hn : m.2.2.2.2.2.2.2.1 = nI L) (hL : L < 201) (x : Int32) : zf_X8_prints 10000 m x = some (m.1, m.2.1, m.2.2.1, m.2.2.2.1, m.2.2.2.2.1, m.2.2.2.2.2.1, upd m.2.2.2.2.2.2.1 L x, nI (L + 1), m.2.2.2.2.2.2.2.2) := by
  unfold zf_X8_prints
  rw [hn, if_neg (nI_in (by omega) (by omega)), zlet_eq, zlet_eq, nI_clamp (by omega), nI_1]
theorem zm_s150 {v0 : zModel} {l : List Int32} (h201 : l.length ≤ 201) {e : Nat} (he : e ≤ l.length) (hg : ∀ c ∈ l, zcd c) : ∀ (d i n : Nat) (m : zModel) (pr : List Int32), i + d = e → d < n → (∀ j : Nat, i ≤ j → j < e → zsg (l.getD j 0) = true) → zfl m.2.2.2.2.2.2.2.2.2.2.2.2.2.2.2.1 m.2.2.2.2.2.2.2.2.2.2.2.2.2.2.2.2 l → zbit m.2.2.2.2.2.2.2.2.2.2.2.2.2.2.1 → zfl m.2.2.2.2.2.2.1 m.2.2.2.2.2.2.2.1 pr → pr.length ≤ i →
    ∃ f np, zf_X8_segment_L150 10000 v0 n (nI e) (nI i) m.1 m.2.1 m.2.2.1 m.2.2.2.1 m.2.2.2.2.1 m.2.2.2.2.2.1 m.2.2.2.2.2.2.1 m.2.2.2.2.2.2.2.1 m.2.2.2.2.2.2.2.2.1 m.2.2.2.2.2.2.2.2.2.1 m.2.2.2.2.2.2.2.2.2.2.1 m.2.2.2.2.2.2.2.2.2.2.2.1 m.2.2.2.2.2.2.2.2.2.2.2.2.1 m.2.2.2.2.2.2.2.2.2.2.2.2.2.1 m.2.2.2.2.2.2.2.2.2.2.2.2.2.2.1 m.2.2.2.2.2.2.2.2.2.2.2.2.2.2.2.1 m.2.2.2.2.2.2.2.2.2.2.2.2.2.2.2.2 = some (nI e, (m.1, m.2.1, m.2.2.1, m.2.2.2.1, m.2.2.2.2.1, m.2.2.2.2.2.1, f, np, m.2.2.2.2.2.2.2.2)) ∧ zfl f np (pr ++ ((l.drop i).take d).map (fun c => zchr c m.2.2.2.2.2.2.2.2.2.2.2.2.2.2.1))
  | d, i, 0, m, pr, hd, hn, hs, hc, hb, hp, hl => absurd hn (Nat.not_lt_zero _)
  | 0, i, n + 1, m, pr, hd, hn, hs, hc, hb, hp, hl => by
    unfold zf_X8_segment_L150
    rw [if_pos (nI_le (by omega) (by omega)), List.take_zero, List.map_nil, List.append_nil]
    exact ⟨m.2.2.2.2.2.2.1, m.2.2.2.2.2.2.2.1, rfl, hp⟩
  | d + 1, i, n + 1, m, pr, hd, hn, hs, hc, hb, hp, hl => by
    have hi : i < l.length := by omega
    have hx : m.2.2.2.2.2.2.2.2.2.2.2.2.2.2.2.1 i = l[i] := by
      have := hc.2 i hi
      rw [List.getElem?_eq_getElem hi] at this
      exact (Option.some.inj this).symm
    have hsi := hs i (Nat.le_refl _) (by omega)
    rw [List.getD_eq_getElem?_getD, List.getElem?_eq_getElem hi] at hsi
    have hsi : zsg l[i] = true := hsi
    unfold zf_X8_segment_L150
    rw [if_neg (nI_ge (by omega) (by omega)), if_neg (nI_in (by omega) (by omega)), zlet_eq, nI_clamp (by omega), hx, zchr_m (hg _ (List.getElem_mem hi)) hb hsi, Option.bind_some, show zf_X8_prints 10000 (m.1, m.2.1, m.2.2.1, m.2.2.2.1, m.2.2.2.2.1, m.2.2.2.2.2.1, m.2.2.2.2.2.2.1, m.2.2.2.2.2.2.2.1, m.2.2.2.2.2.2.2.2.1, m.2.2.2.2.2.2.2.2.2.1, m.2.2.2.2.2.2.2.2.2.2.1, m.2.2.2.2.2.2.2.2.2.2.2.1, m.2.2.2.2.2.2.2.2.2.2.2.2.1, m.2.2.2.2.2.2.2.2.2.2.2.2.2.1, m.2.2.2.2.2.2.2.2.2.2.2.2.2.2.1, m.2.2.2.2.2.2.2.2.2.2.2.2.2.2.2.1, m.2.2.2.2.2.2.2.2.2.2.2.2.2.2.2.2) (zchr l[i] m.2.2.2.2.2.2.2.2.2.2.2.2.2.2.1) = some (m.1, m.2.1, m.2.2.1, m.2.2.2.1, m.2.2.2.2.1, m.2.2.2.2.2.1, upd m.2.2.2.2.2.2.1 pr.length (zchr l[i] m.2.2.2.2.2.2.2.2.2.2.2.2.2.2.1), nI (pr.length + 1), m.2.2.2.2.2.2.2.2) from zm_pr hp.1 (by omega) _, Option.bind_some, zlet_eq, nI_1, List.drop_eq_getElem_cons hi, List.take_succ_cons, List.map_cons]
    obtain ⟨f, np, g1, g2⟩ := zm_s150 (v0 := v0) h201 he hg d (i + 1) n (m.1, m.2.1, m.2.2.1, m.2.2.2.1, m.2.2.2.2.1, m.2.2.2.2.2.1, upd m.2.2.2.2.2.2.1 pr.length (zchr l[i] m.2.2.2.2.2.2.2.2.2.2.2.2.2.2.1), nI (pr.length + 1), m.2.2.2.2.2.2.2.2) (pr ++ [zchr l[i] m.2.2.2.2.2.2.2.2.2.2.2.2.2.2.1]) (by omega) (by omega) (fun j h1 h2 => hs j (by omega) h2) hc hb (zfl_add hp _) (by rw [List.length_append, List.length_singleton]; omega)
    refine ⟨f, np, g1, ?_⟩
    rw [List.append_assoc] at g2
    exact g2
/-- a run is put down: its kind is kd, the shift is set already -/
theorem zm_b105 {v0 m : zModel} {W : List (List Int32)} {l : List Int32} {P : zPr} (h : zmQ W l m P) (h201 : l.length ≤ 201) (hg : ∀ c ∈ l, zcd c) {a d : Nat} (hd : 0 < d) (hb : a + d ≤ l.length) (hs : ∀ j : Nat, a ≤ j → j < a + d → zsg (l.getD j 0) = true) (hsh : zbit m.2.2.2.2.2.2.2.2.2.2.2.2.2.2.1) (hp : zle P a) {s : Int32} (hs2 : zbit s) (kd wd : Int32) (hkd : kd = zkd (W.map zpk) ((l.drop a).take d) s) (hwd : wd = if zkd (W.map zpk) ((l.drop a).take d) s &&& 1 = 0 then zfind (zpk ((l.drop a).take d)) (W.map zpk) 0 else -1) :
    ∃ m', zf_X8_segment_b105 10000 v0 (nI a) (nI (a + d)) kd m.1 m.2.1 m.2.2.1 m.2.2.2.1 m.2.2.2.2.1 m.2.2.2.2.2.1 m.2.2.2.2.2.2.1 m.2.2.2.2.2.2.2.1 m.2.2.2.2.2.2.2.2.1 m.2.2.2.2.2.2.2.2.2.1 m.2.2.2.2.2.2.2.2.2.2.1 m.2.2.2.2.2.2.2.2.2.2.2.1 m.2.2.2.2.2.2.2.2.2.2.2.2.1 m.2.2.2.2.2.2.2.2.2.2.2.2.2.1 m.2.2.2.2.2.2.2.2.2.2.2.2.2.2.1 m.2.2.2.2.2.2.2.2.2.2.2.2.2.2.2.1 m.2.2.2.2.2.2.2.2.2.2.2.2.2.2.2.2 = some (nI (a + d), m') ∧ zmQ W l m' (P.1 ++ ((l.drop a).take d).map (fun c => zchr c m.2.2.2.2.2.2.2.2.2.2.2.2.2.2.1), P.2.1 ++ [nI d], P.2.2.1 ++ [kd], P.2.2.2.1 ++ [wd], P.2.2.2.2) ∧ m'.2.2.2.2.2.2.2.2.2.2.2.2.2.2.1 = m.2.2.2.2.2.2.2.2.2.2.2.2.2.2.1 ∧ zmfr m m' := by
  obtain ⟨h1, h2, h3, h4, h5, h6, h7, h8, h9⟩ := h
  obtain ⟨p1, p2, p3, p4⟩ := hp
  have hnk : m.2.2.2.2.2.2.2.2.2.2.2.1 = nI P.2.2.1.length := h3.1
  obtain ⟨f, np, g1, g2⟩ := zm_s150 (v0 := v0) h201 hb hg d a 10000 (m.1, m.2.1, m.2.2.1, m.2.2.2.1, m.2.2.2.2.1, m.2.2.2.2.2.1, m.2.2.2.2.2.2.1, m.2.2.2.2.2.2.2.1, upd m.2.2.2.2.2.2.2.2.1 P.2.2.1.length (nI a), upd m.2.2.2.2.2.2.2.2.2.1 P.2.2.1.length (nI d), upd m.2.2.2.2.2.2.2.2.2.2.1 P.2.2.1.length kd, nI (P.2.2.1.length + 1), m.2.2.2.2.2.2.2.2.2.2.2.2) P.1 rfl (by omega) hs h8 hsh h1 p1
  unfold zf_X8_segment_b105
  rw [hnk, if_neg (nI_in (by omega) (by omega)), zlet_eq, nI_subL, zlet_eq, if_neg (nI_in (by omega) (by omega)), zlet_eq, if_neg (nI_in (by omega) (by omega)), zlet_eq, zlet_eq, nI_clamp (by omega), nI_1]
  refine ⟨_, g1, ⟨g2, ?_, zfl_add h3 kd, ?_, ?_, h6, h7, h8, fun i hi => ?_⟩, rfl, ⟨rfl, rfl, rfl, rfl, rfl, rfl⟩⟩
  · show zfl (upd m.2.2.2.2.2.2.2.2.2.1 P.2.2.1.length (nI d)) (nI (P.2.2.1.length + 1)) (P.2.1 ++ [nI d])
    rw [← h4]
    exact zfl_add h2 (nI d)
  · show (P.2.1 ++ [nI d]).length = (P.2.2.1 ++ [kd]).length
    rw [List.length_append, List.length_append, h4]
    rfl
  · show (P.2.2.2.1 ++ [wd]).length = (P.2.2.1 ++ [kd]).length
    rw [List.length_append, List.length_append, h5]
    rfl
  · have hi : i < (P.2.2.1 ++ [kd]).length := hi
    rw [List.length_append, List.length_singleton] at hi
    show zqs W l (upd m.2.2.2.2.2.2.2.2.1 P.2.2.1.length (nI a) i) (P.2.1 ++ [nI d])[i]? (P.2.2.1 ++ [kd])[i]? (P.2.2.2.1 ++ [wd])[i]?
    by_cases e : i = P.2.2.1.length
    · subst e
      rw [zud_eq, List.getElem?_append_right (by omega), List.getElem?_append_right (Nat.le_refl _), List.getElem?_append_right (by omega), h4, h5, Nat.sub_self]
      refine ⟨a, d, s, hd, hb, rfl, rfl, fun c hc => ?_, hs2, congrArg some hkd, congrArg some hwd⟩
      obtain ⟨j, hj, rfl⟩ := List.getElem_of_mem hc
      have hjl := hj
      rw [List.length_take, List.length_drop] at hjl
      rw [List.getElem_take, List.getElem_drop]
      have := hs (a + j) (by omega) (by omega)
      rw [List.getD_eq_getElem?_getD, List.getElem?_eq_getElem (by omega)] at this
      exact ⟨this, hg _ (List.getElem_mem _)⟩
    · rw [zud_ne e, List.getElem?_append_left (by omega), List.getElem?_append_left (by omega), List.getElem?_append_left (by omega)]
      exact h9 i (by omega)
end ZMQ
