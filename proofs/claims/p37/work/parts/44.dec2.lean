/-! ===== the pure part: the class decodes, its loop ===== -/
section ZD2
/-- a code that is no sign, obeyed -/
def zobey (u c : Int32) (P : zPr) : zPr := (if zchr c P.2.2.2.2.1 = -1 then P.1 else P.1 ++ [zchr c P.2.2.2.2.1], P.2.1, P.2.2.1, P.2.2.2.1, zbeh c P.2.2.2.2.1 u, if c = 29 ∧ P.2.2.2.2.1 = 1 then P.2.2.2.2.2.1 + 1 else P.2.2.2.2.2.1, if c = 29 ∧ ¬ P.2.2.2.2.1 = 1 then P.2.2.2.2.2.2 + 1 else P.2.2.2.2.2.2)
theorem zd_obey {v : zPrinter} {P : zPr} {st : List Int32} (hP : zrP v P st) {c u : Int32} (hc : zcd c) (hs : zbit P.2.2.2.2.1) (hl : P.1.length < 200) : ∃ v', zf_X4_obey 10000 v c u = some v' ∧ zrP v' (zobey u c P) st := by
  obtain ⟨p1, p2, p3, p4, p5, p6⟩ := hP
  have h5 : v.2.2.2.2.2.1 = P.2.2.2.2.1 := by rw [p5]
  have h6 : v.2.2.2.2.2.2.1 = P.2.2.2.2.2.1 := by rw [p5]
  have h7 : v.2.2.2.2.2.2.2 = P.2.2.2.2.2.2 := by rw [p5]
  have b43 : ∀ w2 w3 : Int32, ∃ v', zf_X4_obey_b43 10000 v c u v.1 P.2.2.2.2.1 w2 w3 = some v' ∧ zrP v' (if zchr c P.2.2.2.2.1 = -1 then P.1 else P.1 ++ [zchr c P.2.2.2.2.1], P.2.1, P.2.2.1, P.2.2.2.1, zbeh c P.2.2.2.2.1 u, w2, w3) st := by
    intro w2 w3
    unfold zf_X4_obey_b43 zf_X4_obey_b65
    rw [zchr_c hc hs, Option.bind_some]
    by_cases h : zchr c P.2.2.2.2.1 = -1
    · rw [if_pos h, zbeh_c, Option.bind_some, if_pos h]
      exact ⟨_, rfl, p1, p2, p3, p4, rfl, p6⟩
    · obtain ⟨b, e, g⟩ := zp_add (fu := 10000) p1 hl (zchr c P.2.2.2.2.1)
      rw [if_neg h, e, Option.bind_some, zbeh_c, Option.bind_some, if_neg h]
      exact ⟨_, rfl, g, p2, p3, p4, rfl, p6⟩
  unfold zf_X4_obey zf_X4_obey_b27 zobey
  rw [h5, h6, h7]
  by_cases h1 : c = 29
  · rw [if_pos h1]
    by_cases h2 : P.2.2.2.2.1 = 1
    · rw [if_pos h2, zlet_eq, if_pos (show c = 29 ∧ P.2.2.2.2.1 = 1 from ⟨h1, h2⟩), if_neg (show ¬ (c = 29 ∧ ¬ P.2.2.2.2.1 = 1) from fun h => h.2 h2)]
      exact b43 _ _
    · rw [if_neg h2, if_pos h1, zlet_eq, if_neg (show ¬ (c = 29 ∧ P.2.2.2.2.1 = 1) from fun h => h2 h.2), if_pos (show c = 29 ∧ ¬ P.2.2.2.2.1 = 1 from ⟨h1, h2⟩)]
      exact b43 _ _
  · rw [if_neg h1, if_neg h1, if_neg (show ¬ (c = 29 ∧ P.2.2.2.2.1 = 1) from fun h => h1 h.1), if_neg (show ¬ (c = 29 ∧ ¬ P.2.2.2.2.1 = 1) from fun h => h1 h.1)]
    exact b43 _ _
def zsegE (ws run : List Int32) (P : zPr) : zPr := match run with
  | [] => P
  | c :: cs => zseg ws (c :: cs) P
/-- codes decoded: the run of signs that is open, the codes to come -/
def zdec (ws : List Int32) (u : Int32) : List Int32 → List Int32 → zPr → zPr
  | run, [], P => zsegE ws run P
  | run, c :: cs, P => if zsg c = true then zdec ws u (run ++ [c]) cs P else zdec ws u [] cs (zobey u c (zsegE ws run P))
def zle (P : zPr) (a : Nat) : Prop := P.1.length ≤ a ∧ P.2.1.length ≤ a ∧ P.2.2.1.length ≤ a ∧ P.2.2.2.1.length ≤ a
theorem zd_segE {v : zPrinter} {P : zPr} {st : List Int32} {v1 v4 : zRow} {l ws : List Int32} (h : zr 200 v1 l) (hw : zr 20 v4 ws) (h0 : (0 : Int32) ∉ ws) (hc : ∀ c ∈ l, zcd c) (hP : zrP v P st) (hs : zbit P.2.2.2.2.1) {a r : Nat} (hb : a + r ≤ l.length) (hp : zle P a) (hst : st.length ≤ a) :
    ∃ v', zf_X4_printSegment 10000 v v1 v4 (nI a) (nI (a + r)) = some v' ∧ zrP v' (zsegE ws ((l.drop a).take r) P) (st ++ zstl (zsg1 a r)) ∧ zbit (zsegE ws ((l.drop a).take r) P).2.2.2.2.1 ∧ zle (zsegE ws ((l.drop a).take r) P) (a + r) ∧ (st ++ zstl (zsg1 a r)).length ≤ a + r := by
  have hlt := h.lt
  cases r with
  | zero =>
    rw [zsg1_0, show zstl [] = [] from rfl, List.append_nil, List.take_zero]
    refine ⟨v, ?_, hP, hs, hp, hst⟩
    unfold zf_X4_printSegment
    rw [if_neg (nI_nlt (by omega) (by omega))]
  | succ r =>
    obtain ⟨v', e, g⟩ := zd_seg (d := r + 1) h hw h0 hc hP hs (by omega) hb hp hst
    have hi : a < l.length := by omega
    have hr : (l.drop a).take (r + 1) = l[a] :: (l.drop (a + 1)).take r := by rw [List.drop_eq_getElem_cons hi, List.take_succ_cons]
    have hlen : ((l.drop a).take (r + 1)).length = r + 1 := by rw [List.length_take, List.length_drop]; omega
    have hE : zsegE ws ((l.drop a).take (r + 1)) P = zseg ws ((l.drop a).take (r + 1)) P := by rw [hr]; rfl
    rw [hE, zsg1_s]
    obtain ⟨q1, q2, q3, q4⟩ := hp
    refine ⟨v', e, g, zkd_bit hs, ?_, ?_⟩
    · unfold zle zseg
      simp only [List.length_append, List.length_map, hlen, List.length_cons, List.length_nil]
      exact ⟨by omega, by omega, by omega, by omega⟩
    · rw [List.length_append]
      show st.length + 1 ≤ a + (r + 1)
      omega
theorem zd_beh {c s u : Int32} (hs : zbit s) : zbit (zbeh c s u) := by
  unfold zbeh
  split
  · exact Or.inr rfl
  split
  · exact Or.inl rfl
  split
  · exact hs
  split
  · exact Or.inl rfl
  · exact hs
theorem zd_L {v0 : zPrinter} {v1 : zLine} {v2 : zRow} {l ws : List Int32} (h : zr 200 v1.2.2.1 l) (hw : zr 20 v2 ws) (h0 : (0 : Int32) ∉ ws) (hc : ∀ c ∈ l, zcd c) : ∀ (d a r n : Nat) (v : zPrinter) (P : zPr) (st : List Int32), a + r + d = l.length → d < n → zrP v P st → zbit P.2.2.2.2.1 → zle P a → st.length ≤ a →
    ∃ v', zf_X4_decode_L15 10000 v0 v1 v2 n (nI a) (nI (a + r)) v.1 v.2.1 v.2.2.1 v.2.2.2.1 v.2.2.2.2.1 v.2.2.2.2.2.1 v.2.2.2.2.2.2.1 v.2.2.2.2.2.2.2 = some v' ∧ zrP v' (zdec ws v1.2.2.2.2.2.2 ((l.drop a).take r) (l.drop (a + r)) P) (st ++ zstl (zsgs a r (l.drop (a + r))))
  | d, a, r, 0, v, P, st, hd, hn, hP, hs, hp, hst => absurd hn (Nat.not_lt_zero _)
  | 0, a, r, n + 1, v, P, st, hd, hn, hP, hs, hp, hst => by
    have hlt := h.lt
    obtain ⟨v', e, g, -, -, -⟩ := zd_segE (r := r) h hw h0 hc hP hs (by omega) hp hst
    unfold zf_X4_decode_L15
    rw [zp_size h, Option.bind_some, if_pos (nI_le (by omega) (by omega)), Option.bind_some, show l.length = a + r by omega, show ((v.1, v.2.1, v.2.2.1, v.2.2.2.1, v.2.2.2.2.1, v.2.2.2.2.2.1, v.2.2.2.2.2.2.1, v.2.2.2.2.2.2.2) : zPrinter) = v from rfl, e, Option.bind_some, List.drop_of_length_le (show l.length ≤ a + r by omega)]
    exact ⟨v', rfl, g⟩
  | d + 1, a, r, n + 1, v, P, st, hd, hn, hP, hs, hp, hst => by
    have hlt := h.lt
    have h200 := h.2.1
    have hi : a + r < l.length := by omega
    have hcd := hc _ (List.getElem_mem hi)
    unfold zf_X4_decode_L15
    rw [zp_size h, Option.bind_some, if_neg (nI_ge (by omega) (by omega)), zp_at h (List.getElem?_eq_getElem hi), Option.bind_some, zsg_c, Option.bind_some, show ((v.1, v.2.1, v.2.2.1, v.2.2.2.1, v.2.2.2.2.1, v.2.2.2.2.2.1, v.2.2.2.2.2.2.1, v.2.2.2.2.2.2.2) : zPrinter) = v from rfl, List.drop_eq_getElem_cons hi]
    unfold zdec zsgs zf_X4_decode_b66
    cases hg : zsg l[a + r] with
    | true =>
      simp only [↓reduceIte, if_neg z10]
      rw [zlet_eq, nI_1]
      have hrun : (l.drop a).take r ++ [l[a + r]] = (l.drop a).take (r + 1) := by
        rw [List.take_add_one, List.getElem?_drop, List.getElem?_eq_getElem hi]; rfl
      rw [hrun]
      exact zd_L h hw h0 hc d a (r + 1) n v P st (by omega) (by omega) hP hs hp hst
    | false =>
      obtain ⟨v', e, g, g2, g3, g4⟩ := zd_segE (r := r) h hw h0 hc hP hs (by omega) hp hst
      obtain ⟨v2', e2, k2⟩ := zd_obey (u := v1.2.2.2.2.2.2) g hcd g2 (by have := g3.1; omega)
      simp only [Bool.false_eq_true, ↓reduceIte]
      rw [e, Option.bind_some, e2, Option.bind_some, zlet_eq, zlet_eq, nI_1]
      have := zd_L (v0 := v0) h hw h0 hc d (a + r + 1) 0 n v2' _ _ (by omega) (by omega) k2 (zd_beh g2) (by
        obtain ⟨q1, q2, q3, q4⟩ := g3
        refine ⟨?_, by show (zsegE ws ((l.drop a).take r) P).2.1.length ≤ _; omega, by show (zsegE ws ((l.drop a).take r) P).2.2.1.length ≤ _; omega, by show (zsegE ws ((l.drop a).take r) P).2.2.2.1.length ≤ _; omega⟩
        unfold zobey
        show (if _ then _ else _ : List Int32).length ≤ _
        split
        · omega
        · rw [List.length_append]; simp only [List.length_cons, List.length_nil]; omega) (by omega)
      rw [Nat.add_zero, List.take_zero] at this
      rw [zstl_app, ← List.append_assoc]
      exact this
def zP0 : zPr := ([], [], [], [], 0, 0, 0)
theorem zd_decode {v0 : zPrinter} {v1 : zLine} {v2 : zRow} {l ws : List Int32} (h : zr 200 v1.2.2.1 l) (hw : zr 20 v2 ws) (h0 : (0 : Int32) ∉ ws) (hc : ∀ c ∈ l, zcd c) : ∃ v', zf_X4_decode 10000 v0 v1 v2 = some v' ∧ zrP v' (zdec ws v1.2.2.2.2.2.2 [] l zP0) (zstl (zsgs 0 0 l)) := by
  obtain ⟨b1, e1, g1⟩ := zp_clear' (fu := 10000) (N := 200) (v := v0.1) (by omega)
  obtain ⟨b2, e2, g2⟩ := zp_clear' (fu := 10000) (N := 200) (v := v0.2.1) (by omega)
  obtain ⟨b3, e3, g3⟩ := zp_clear' (fu := 10000) (N := 200) (v := v0.2.2.1) (by omega)
  obtain ⟨b4, e4, g4⟩ := zp_clear' (fu := 10000) (N := 200) (v := v0.2.2.2.1) (by omega)
  obtain ⟨b5, e5, g5⟩ := zp_clear' (fu := 10000) (N := 200) (v := v0.2.2.2.2.1) (by omega)
  unfold zf_X4_decode zf_X4_reset
  rw [e1, Option.bind_some, e2, Option.bind_some, e3, Option.bind_some, e4, Option.bind_some, e5, Option.bind_some, Option.bind_some]
  have := zd_L (v0 := v0) h hw h0 hc l.length 0 0 10000 (b1, b2, b3, b4, b5, 0, 0, 0) zP0 [] (by omega) (by have := h.2.1; omega) ⟨g1, g3, g4, g5, rfl, g2⟩ (Or.inl rfl) ⟨Nat.le_refl _, Nat.le_refl _, Nat.le_refl _, Nat.le_refl _⟩ (Nat.le_refl _)
  rw [Nat.add_zero, nI_0, List.drop_zero, List.take_zero, List.nil_append] at this
  exact this
end ZD2
