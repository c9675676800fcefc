/-! ===== the pure part: the model's run of signs, whole ===== -/
section ZMT
theorem zkd_pl {ws seg : List Int32} {s : Int32} (h : zpl ws seg s = true) : zkd ws seg s = s := by unfold zkd; rw [if_pos h]
theorem zkd_gs {ws seg : List Int32} {s : Int32} (h : ¬ zpl ws seg s = true) (h2 : zpl ws seg (if s = 0 then 1 else 0) = true) : zkd ws seg s = (if s = 0 then 1 else 0) + 2 := by unfold zkd; rw [if_neg h, if_pos h2]
theorem zkd_db {ws seg : List Int32} {s : Int32} (h : ¬ zpl ws seg s = true) (h2 : ¬ zpl ws seg (if s = 0 then 1 else 0) = true) : zkd ws seg s = s + 4 := by unfold zkd; rw [if_neg h, if_neg h2]
theorem zbit_o {s : Int32} (h : zbit s) : (1 : Int32) - s = (if s = 0 then 1 else 0) ∧ s &&& 1 = s ∧ ((if s = 0 then (1 : Int32) else 0) + 2) &&& 1 = (if s = 0 then 1 else 0) ∧ (s + 4) &&& 1 = s ∧ zbit (if s = 0 then 1 else 0) := by
  rcases h with rfl | rfl
  · exact ⟨by decide, by decide, by decide, by decide, Or.inr rfl⟩
  · exact ⟨by decide, by decide, by decide, by decide, Or.inl rfl⟩
theorem zsh_eta (m : zModel) {x : Int32} (h : m.2.2.2.2.2.2.2.2.2.2.2.2.2.2.1 = x) : m = (m.1, m.2.1, m.2.2.1, m.2.2.2.1, m.2.2.2.2.1, m.2.2.2.2.2.1, m.2.2.2.2.2.2.1, m.2.2.2.2.2.2.2.1, m.2.2.2.2.2.2.2.2.1, m.2.2.2.2.2.2.2.2.2.1, m.2.2.2.2.2.2.2.2.2.2.1, m.2.2.2.2.2.2.2.2.2.2.2.1, m.2.2.2.2.2.2.2.2.2.2.2.2.1, m.2.2.2.2.2.2.2.2.2.2.2.2.2.1, x, m.2.2.2.2.2.2.2.2.2.2.2.2.2.2.2) := by subst h; rfl
theorem zm_b31 {v0 m : zModel} {W : List (List Int32)} (hm : zmw m.1 W) (h20 : W.length ≤ 20) (hwd : ∀ w ∈ W, zwd w) {l : List Int32} {P : zPr} (h : zmQ W l m P) (hS : m.2.2.2.2.2.2.2.2.2.2.2.2.2.2.1 = P.2.2.2.2.1) (hbit : zbit P.2.2.2.2.1) (h201 : l.length ≤ 201) (hg : ∀ c ∈ l, zcd c) {a d : Nat} (hd : 0 < d) (hb : a + d ≤ l.length) (hs : ∀ j : Nat, a ≤ j → j < a + d → zsg (l.getD j 0) = true) (hp : zle P a) :
    ∃ m', zf_X8_segment_b31 10000 v0 (nI a) (nI (a + d)) m.1 m.2.1 m.2.2.1 m.2.2.2.1 m.2.2.2.2.1 m.2.2.2.2.2.1 m.2.2.2.2.2.2.1 m.2.2.2.2.2.2.2.1 m.2.2.2.2.2.2.2.2.1 m.2.2.2.2.2.2.2.2.2.1 m.2.2.2.2.2.2.2.2.2.2.1 m.2.2.2.2.2.2.2.2.2.2.2.1 m.2.2.2.2.2.2.2.2.2.2.2.2.1 m.2.2.2.2.2.2.2.2.2.2.2.2.2.1 m.2.2.2.2.2.2.2.2.2.2.2.2.2.2.1 m.2.2.2.2.2.2.2.2.2.2.2.2.2.2.2.1 m.2.2.2.2.2.2.2.2.2.2.2.2.2.2.2.2 = some (nI (a + d), m') ∧ zmQ W l m' (zseg (W.map zpk) ((l.drop a).take d) P) ∧ m'.2.2.2.2.2.2.2.2.2.2.2.2.2.2.1 = (zseg (W.map zpk) ((l.drop a).take d) P).2.2.2.2.1 ∧ zmfr m m' := by
  have hlen : ((l.drop a).take d).length = d := by rw [List.length_take, List.length_drop]; omega
  have hsa : zsg_at m a ((l.drop a).take d) := by
    refine ⟨by omega, fun j hj => ?_⟩
    rw [hlen] at hj
    rw [List.getElem?_take_of_lt hj, List.getElem?_drop]
    exact h.2.2.2.2.2.2.2.1.2 (a + j) (by omega)
  have hsc : ∀ c ∈ (l.drop a).take d, zsg c = true ∧ zcd c := by
    intro c hc
    obtain ⟨j, hj, rfl⟩ := List.getElem_of_mem hc
    rw [hlen] at hj
    rw [List.getElem_take, List.getElem_drop]
    have := hs (a + j) (by omega) (by omega)
    rw [List.getD_eq_getElem?_getD, List.getElem?_eq_getElem (by omega)] at this
    exact ⟨this, hg _ (List.getElem_mem _)⟩
  have hpl : ∀ s : Int32, zbit s → zf_X8_isPlausible 10000 m (nI a) (nI d) s = some (if zpl (W.map zpk) ((l.drop a).take d) s = true then 1 else 0) := by
    intro s hsb
    have := zm_pl hm h20 hwd hsa hsc (by omega) hsb
    rw [hlen] at this
    exact this
  obtain ⟨o1, o2, o3, o4, o5⟩ := zbit_o hbit
  have put : ∀ (k : zModel) (kd : Int32), k = (m.1, m.2.1, m.2.2.1, m.2.2.2.1, m.2.2.2.2.1, m.2.2.2.2.2.1, m.2.2.2.2.2.2.1, m.2.2.2.2.2.2.2.1, m.2.2.2.2.2.2.2.2.1, m.2.2.2.2.2.2.2.2.2.1, m.2.2.2.2.2.2.2.2.2.2.1, m.2.2.2.2.2.2.2.2.2.2.2.1, m.2.2.2.2.2.2.2.2.2.2.2.2.1, m.2.2.2.2.2.2.2.2.2.2.2.2.2.1, zkd (W.map zpk) ((l.drop a).take d) P.2.2.2.2.1 &&& 1, m.2.2.2.2.2.2.2.2.2.2.2.2.2.2.2) → kd = zkd (W.map zpk) ((l.drop a).take d) P.2.2.2.2.1 → ∃ m', zf_X8_segment_b105 10000 v0 (nI a) (nI (a + d)) kd k.1 k.2.1 k.2.2.1 k.2.2.2.1 k.2.2.2.2.1 k.2.2.2.2.2.1 k.2.2.2.2.2.2.1 k.2.2.2.2.2.2.2.1 k.2.2.2.2.2.2.2.2.1 k.2.2.2.2.2.2.2.2.2.1 k.2.2.2.2.2.2.2.2.2.2.1 k.2.2.2.2.2.2.2.2.2.2.2.1 k.2.2.2.2.2.2.2.2.2.2.2.2.1 k.2.2.2.2.2.2.2.2.2.2.2.2.2.1 k.2.2.2.2.2.2.2.2.2.2.2.2.2.2.1 k.2.2.2.2.2.2.2.2.2.2.2.2.2.2.2.1 k.2.2.2.2.2.2.2.2.2.2.2.2.2.2.2.2 = some (nI (a + d), m') ∧ zmQ W l m' (zseg (W.map zpk) ((l.drop a).take d) P) ∧ m'.2.2.2.2.2.2.2.2.2.2.2.2.2.2.1 = (zseg (W.map zpk) ((l.drop a).take d) P).2.2.2.2.1 ∧ zmfr m m' := by
    intro k kd hk hkd
    have hkQ : zmQ W l k P := by rw [hk]; exact h
    have hksh : k.2.2.2.2.2.2.2.2.2.2.2.2.2.2.1 = zkd (W.map zpk) ((l.drop a).take d) P.2.2.2.2.1 &&& 1 := by rw [hk]
    have hkf : zmfr m k := by rw [hk]; exact ⟨rfl, rfl, rfl, rfl, rfl, rfl⟩
    obtain ⟨m', g1, g2, g3, g4⟩ := zm_b105 (v0 := v0) hkQ h201 hg hd hb hs (by rw [hksh]; exact zkd_bit hbit) hp hbit kd _ hkd rfl
    refine ⟨m', g1, ?_, by rw [g3, hksh]; rfl, hkf.tr g4⟩
    unfold zseg
    rw [hksh, hkd] at g2
    rw [hlen]
    exact g2
  have e1 : zf_X8_isPlausible 10000 m (nI a) (nI d) m.2.2.2.2.2.2.2.2.2.2.2.2.2.2.1 = some (if zpl (W.map zpk) ((l.drop a).take d) P.2.2.2.2.1 = true then 1 else 0) := by rw [hS]; exact hpl _ hbit
  have e2 : zf_X8_isPlausible 10000 m (nI a) (nI d) (1 - m.2.2.2.2.2.2.2.2.2.2.2.2.2.2.1) = some (if zpl (W.map zpk) ((l.drop a).take d) (if P.2.2.2.2.1 = 0 then 1 else 0) = true then 1 else 0) := by rw [hS, o1]; exact hpl _ o5
  unfold zf_X8_segment_b31
  rw [nI_subL, show zf_X8_isPlausible 10000 (m.1, m.2.1, m.2.2.1, m.2.2.2.1, m.2.2.2.2.1, m.2.2.2.2.2.1, m.2.2.2.2.2.2.1, m.2.2.2.2.2.2.2.1, m.2.2.2.2.2.2.2.2.1, m.2.2.2.2.2.2.2.2.2.1, m.2.2.2.2.2.2.2.2.2.2.1, m.2.2.2.2.2.2.2.2.2.2.2.1, m.2.2.2.2.2.2.2.2.2.2.2.2.1, m.2.2.2.2.2.2.2.2.2.2.2.2.2.1, m.2.2.2.2.2.2.2.2.2.2.2.2.2.2.1, m.2.2.2.2.2.2.2.2.2.2.2.2.2.2.2.1, m.2.2.2.2.2.2.2.2.2.2.2.2.2.2.2.2) (nI a) (nI d) m.2.2.2.2.2.2.2.2.2.2.2.2.2.2.1 = _ from e1, Option.bind_some, show zf_X8_isPlausible 10000 (m.1, m.2.1, m.2.2.1, m.2.2.2.1, m.2.2.2.2.1, m.2.2.2.2.2.1, m.2.2.2.2.2.2.1, m.2.2.2.2.2.2.2.1, m.2.2.2.2.2.2.2.2.1, m.2.2.2.2.2.2.2.2.2.1, m.2.2.2.2.2.2.2.2.2.2.1, m.2.2.2.2.2.2.2.2.2.2.2.1, m.2.2.2.2.2.2.2.2.2.2.2.2.1, m.2.2.2.2.2.2.2.2.2.2.2.2.2.1, m.2.2.2.2.2.2.2.2.2.2.2.2.2.2.1, m.2.2.2.2.2.2.2.2.2.2.2.2.2.2.2.1, m.2.2.2.2.2.2.2.2.2.2.2.2.2.2.2.2) (nI a) (nI d) (1 - m.2.2.2.2.2.2.2.2.2.2.2.2.2.2.1) = _ from e2, Option.bind_some]
  by_cases q1 : zpl (W.map zpk) ((l.drop a).take d) P.2.2.2.2.1 = true
  · rw [if_pos q1, if_neg z10]
    exact put m m.2.2.2.2.2.2.2.2.2.2.2.2.2.2.1 (zsh_eta m (by rw [zkd_pl q1, o2]; exact hS)) (by rw [zkd_pl q1]; exact hS)
  · rw [if_neg q1, if_pos rfl]
    unfold zf_X8_segment_b86 zf_X8_segment_b103
    by_cases q2 : zpl (W.map zpk) ((l.drop a).take d) (if P.2.2.2.2.1 = 0 then 1 else 0) = true
    · rw [if_pos q2, if_neg z10, if_neg z10, zlet_eq]
      exact put (m.1, m.2.1, m.2.2.1, m.2.2.2.1, m.2.2.2.2.1, m.2.2.2.2.2.1, m.2.2.2.2.2.2.1, m.2.2.2.2.2.2.2.1, m.2.2.2.2.2.2.2.2.1, m.2.2.2.2.2.2.2.2.2.1, m.2.2.2.2.2.2.2.2.2.2.1, m.2.2.2.2.2.2.2.2.2.2.2.1, m.2.2.2.2.2.2.2.2.2.2.2.2.1, m.2.2.2.2.2.2.2.2.2.2.2.2.2.1, 1 - m.2.2.2.2.2.2.2.2.2.2.2.2.2.2.1, m.2.2.2.2.2.2.2.2.2.2.2.2.2.2.2) (1 - m.2.2.2.2.2.2.2.2.2.2.2.2.2.2.1 + 2) (by rw [zkd_gs q1 q2, o3, hS, o1]) (by rw [zkd_gs q1 q2, hS, o1])
    · rw [if_neg q2, if_pos rfl, if_pos rfl, zlet_eq]
      exact put m (m.2.2.2.2.2.2.2.2.2.2.2.2.2.2.1 + 4) (zsh_eta m (by rw [zkd_db q1 q2, o4]; exact hS)) (by rw [zkd_db q1 q2, hS])
theorem zm_sL2 {v0 m : zModel} {l : List Int32} (hc : zfl m.2.2.2.2.2.2.2.2.2.2.2.2.2.2.2.1 m.2.2.2.2.2.2.2.2.2.2.2.2.2.2.2.2 l) (h201 : l.length ≤ 201) (a : Int32) : ∀ (d i n : Nat), i + d = l.length → d < n → zf_X8_segment_L2 10000 v0 n a (nI i) m.1 m.2.1 m.2.2.1 m.2.2.2.1 m.2.2.2.2.1 m.2.2.2.2.2.1 m.2.2.2.2.2.2.1 m.2.2.2.2.2.2.2.1 m.2.2.2.2.2.2.2.2.1 m.2.2.2.2.2.2.2.2.2.1 m.2.2.2.2.2.2.2.2.2.2.1 m.2.2.2.2.2.2.2.2.2.2.2.1 m.2.2.2.2.2.2.2.2.2.2.2.2.1 m.2.2.2.2.2.2.2.2.2.2.2.2.2.1 m.2.2.2.2.2.2.2.2.2.2.2.2.2.2.1 m.2.2.2.2.2.2.2.2.2.2.2.2.2.2.2.1 m.2.2.2.2.2.2.2.2.2.2.2.2.2.2.2.2 = zf_X8_segment_b31 10000 v0 a (nI (zen l i)) m.1 m.2.1 m.2.2.1 m.2.2.2.1 m.2.2.2.2.1 m.2.2.2.2.2.1 m.2.2.2.2.2.2.1 m.2.2.2.2.2.2.2.1 m.2.2.2.2.2.2.2.2.1 m.2.2.2.2.2.2.2.2.2.1 m.2.2.2.2.2.2.2.2.2.2.1 m.2.2.2.2.2.2.2.2.2.2.2.1 m.2.2.2.2.2.2.2.2.2.2.2.2.1 m.2.2.2.2.2.2.2.2.2.2.2.2.2.1 m.2.2.2.2.2.2.2.2.2.2.2.2.2.2.1 m.2.2.2.2.2.2.2.2.2.2.2.2.2.2.2.1 m.2.2.2.2.2.2.2.2.2.2.2.2.2.2.2.2
  | d, i, 0, _, hn => absurd hn (Nat.not_lt_zero _)
  | 0, i, n + 1, hd, hn => by
    unfold zf_X8_segment_L2 zen
    rw [hc.1, if_pos (nI_le (by omega) (by omega)), List.drop_of_length_le (by omega)]
    rfl
  | d + 1, i, n + 1, hd, hn => by
    have hi : i < l.length := by omega
    have hx : m.2.2.2.2.2.2.2.2.2.2.2.2.2.2.2.1 i = l[i] := by
      have := hc.2 i hi
      rw [List.getElem?_eq_getElem hi] at this
      exact (Option.some.inj this).symm
    unfold zf_X8_segment_L2
    rw [if_neg (show ¬ m.2.2.2.2.2.2.2.2.2.2.2.2.2.2.2.2 ≤ nI i by rw [hc.1]; exact nI_ge hi (by omega)), if_neg (nI_in (by omega) (by omega)), zlet_eq, nI_clamp (by omega), hx, zsg_m, Option.bind_some, zlet_eq, nI_1, zm_sL2 hc h201 a d (i + 1) n (by omega) (by omega)]
    unfold zen
    rw [List.drop_eq_getElem_cons hi]
    cases hg : zsg l[i] with
    | false =>
      rw [if_neg (show ¬ (false = true) by decide), if_pos rfl, List.takeWhile_cons_of_neg (by rw [hg]; decide)] <;> rfl
    | true =>
      rw [if_pos rfl, if_neg z10, List.takeWhile_cons_of_pos hg, List.length_cons, show i + (((l.drop (i + 1)).takeWhile zsg).length + 1) = i + 1 + ((l.drop (i + 1)).takeWhile zsg).length by omega]
theorem zm_sg {m : zModel} {W : List (List Int32)} (hm : zmw m.1 W) (h20 : W.length ≤ 20) (hwd : ∀ w ∈ W, zwd w) {l : List Int32} {P : zPr} (h : zmQ W l m P) (hS : m.2.2.2.2.2.2.2.2.2.2.2.2.2.2.1 = P.2.2.2.2.1) (hbit : zbit P.2.2.2.2.1) (h201 : l.length ≤ 201) (hg : ∀ c ∈ l, zcd c) {a d : Nat} (hd : 0 < d) (hz : zen l a = a + d) (hb : a + d ≤ l.length) (hs : ∀ j : Nat, a ≤ j → j < a + d → zsg (l.getD j 0) = true) (hp : zle P a) :
    ∃ m', zf_X8_segment 10000 m (nI a) = some (nI (a + d), m') ∧ zmQ W l m' (zseg (W.map zpk) ((l.drop a).take d) P) ∧ m'.2.2.2.2.2.2.2.2.2.2.2.2.2.2.1 = (zseg (W.map zpk) ((l.drop a).take d) P).2.2.2.2.1 ∧ zmfr m m' := by
  unfold zf_X8_segment
  rw [zm_sL2 h.2.2.2.2.2.2.2.1 h201 (nI a) (l.length - a) a 10000 (by omega) (by omega), hz]
  exact zm_b31 hm h20 hwd h hS hbit h201 hg hd hb hs hp
end ZMT
