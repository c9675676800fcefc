/-! ===== the pure part: the class decodes ===== -/
section ZD
theorem nI_subL (a k : Nat) : nI (a + k) - nI a = nI k := by
  rw [← nI_add, Int32.add_comm, Int32.add_sub_cancel]
/-- a code of the line -/
def zcd (c : Int32) : Prop := ∃ k : Nat, k < 32 ∧ c = nI k
def zbit (s : Int32) : Prop := s = 0 ∨ s = 1
theorem zchr_c {c s : Int32} (hc : zcd c) (hs : zbit s) : zf_X0_characterOf 10000 c s = some (zchr c s) := by
  obtain ⟨k, hk, rfl⟩ := hc
  rcases hs with rfl | rfl
  · exact (zchr_fin k hk 0 (by omega)).1
  · exact (zchr_fin k hk 1 (by omega)).1
/-- letters packed, five bits each -/
def zpks : Nat → Int32 → List Int32 → Int32
  | _, acc, [] => acc
  | k, acc, c :: cs => zpks (k + 1) (acc ||| (c <<< (((5 : Int32) * nI k) &&& 31))) cs
def zpk (l : List Int32) : Int32 := if l.length ≤ 6 then zpks 0 0 l else 0
theorem zd_packL {N : Nat} {v : zRow} {l : List Int32} (h : zr N v l) {a b : Nat} (hb : b ≤ l.length) : ∀ (d k n : Nat) (acc : Int32), a + k + d = b → d < n → zf_X1_wordOfCodes_L15 10000 N v n (nI a) (nI b) acc (nI (a + k)) = some (zpks k acc ((l.drop (a + k)).take d))
  | d, k, 0, acc, hd, hn => absurd hn (Nat.not_lt_zero _)
  | 0, k, n + 1, acc, hd, hn => by
    have hlt := h.lt
    unfold zf_X1_wordOfCodes_L15
    rw [if_pos (nI_le (by omega) (by omega)), List.take_zero]
    rfl
  | d + 1, k, n + 1, acc, hd, hn => by
    have hlt := h.lt
    have hi : a + k < l.length := by omega
    unfold zf_X1_wordOfCodes_L15
    rw [if_neg (nI_ge (by omega) (by omega)), zp_at h (List.getElem?_eq_getElem hi), Option.bind_some, zlet_eq, zlet_eq, nI_subL, nI_1, List.drop_eq_getElem_cons hi, List.take_succ_cons]
    exact zd_packL h hb d (k + 1) n _ (by omega) (by omega)
theorem zd_pack {N : Nat} {v : zRow} {l : List Int32} (h : zr N v l) {a d : Nat} (hb : a + d ≤ l.length) (hN : N < 10000) : zf_X1_wordOfCodes 10000 N v (nI a) (nI (a + d)) = some (zpk ((l.drop a).take d)) := by
  have hlt := h.lt
  have hle := h.2.1
  have hlen : ((l.drop a).take d).length = d := by rw [List.length_take, List.length_drop]; omega
  unfold zf_X1_wordOfCodes zpk
  rw [nI_subL, hlen]
  by_cases h6 : d ≤ 6
  · rw [if_pos (show nI d ≤ 6 from nI_le (b := 6) h6 (by omega)), if_pos h6]
    have := zd_packL (a := a) h hb d 0 10000 0 (by omega) (by omega)
    rw [Nat.add_zero] at this
    exact this
  · rw [if_neg (show ¬ nI d ≤ 6 from nI_ge (a := 6) (by omega) (by omega)), if_neg h6]
def zdig (l : List Int32) : Bool := l.all (fun c => decide (1 ≤ c) && decide (c ≤ 10))
theorem zdig_c (c : Int32) : zf_X0_isDigit 10000 c = some (if (decide (1 ≤ c) && decide (c ≤ 10)) = true then 1 else 0) := by
  unfold zf_X0_isDigit
  by_cases h1 : c < 1
  · rw [if_pos h1, decide_eq_false (Int32.not_le.mpr h1)]; rfl
  · rw [if_neg h1, decide_eq_true (Int32.not_lt.mp h1)]
    by_cases h2 : 10 < c
    · rw [if_pos h2, decide_eq_false (Int32.not_le.mpr h2)]; rfl
    · rw [if_neg h2, decide_eq_true (Int32.not_lt.mp h2)]; rfl
theorem zd_digL {N : Nat} {v : zRow} {l : List Int32} (h : zr N v l) {b : Nat} (hb : b ≤ l.length) : ∀ (d i n : Nat), i + d = b → d < n → zf_X1_areDigits_L2 10000 N v n (nI b) (nI i) = some (if zdig ((l.drop i).take d) = true then 1 else 0)
  | d, i, 0, hd, hn => absurd hn (Nat.not_lt_zero _)
  | 0, i, n + 1, hd, hn => by
    have hlt := h.lt
    unfold zf_X1_areDigits_L2
    rw [if_pos (nI_le (by omega) (by omega)), List.take_zero]
    rfl
  | d + 1, i, n + 1, hd, hn => by
    have hlt := h.lt
    have hi : i < l.length := by omega
    unfold zf_X1_areDigits_L2
    rw [if_neg (nI_ge (by omega) (by omega)), zp_at h (List.getElem?_eq_getElem hi), Option.bind_some, zdig_c, Option.bind_some, List.drop_eq_getElem_cons hi, List.take_succ_cons]
    unfold zdig
    rw [List.all_cons]
    cases hq : (decide (1 ≤ l[i]) && decide (l[i] ≤ 10)) with
    | false => rfl
    | true =>
      rw [if_pos rfl, if_neg z10, zlet_eq, nI_1]
      have := zd_digL h hb d (i + 1) n (by omega) (by omega)
      rw [this]
      rfl
theorem zd_dig {N : Nat} {v : zRow} {l : List Int32} (h : zr N v l) {a d : Nat} (hb : a + d ≤ l.length) (hN : N < 10000) : zf_X1_areDigits 10000 N v (nI a) (nI (a + d)) = some (if zdig ((l.drop a).take d) = true then 1 else 0) := by
  have := h.2.1
  exact zd_digL h hb d a 10000 rfl (by omega)
/-- a run of signs makes sense in a shift -/
def zpl (ws seg : List Int32) (s : Int32) : Bool := if s = 0 then !decide (zfind (zpk seg) ws 0 = -1) else zdig seg
theorem zfind_no {a : Int32} : ∀ (ws : List Int32) (i : Nat), a ∉ ws → zfind a ws i = -1
  | [], _, _ => rfl
  | x :: xs, i, h => by
    show (if x = a then nI i else zfind a xs (i + 1)) = -1
    rw [if_neg (fun e => h (by rw [e]; exact List.mem_cons_self)), zfind_no xs (i + 1) (fun hm => h (List.mem_cons_of_mem _ hm))]
theorem zd_fs {N : Nat} {v w : zRow} {l ws : List Int32} (h : zr N v l) (hw : zr 20 w ws) (h0 : (0 : Int32) ∉ ws) {a d : Nat} (hb : a + d ≤ l.length) (hN : N < 10000) : zf_X1_findSegment 10000 N w v (nI a) (nI (a + d)) = some (zfind (zpk ((l.drop a).take d)) ws 0) := by
  unfold zf_X1_findSegment
  rw [zd_pack h hb hN, Option.bind_some]
  by_cases hz : zpk ((l.drop a).take d) = 0
  · rw [if_pos hz, hz, zfind_no ws 0 h0]
  · rw [if_neg hz, zp_find hw (by have := hw.2.1; omega), Option.bind_some]
/-- the kind of a run: its shift, a guess + 2, a doubt + 4 -/
def zkd (ws seg : List Int32) (s : Int32) : Int32 := if zpl ws seg s = true then s else if zpl ws seg (if s = 0 then 1 else 0) = true then (if s = 0 then 1 else 0) + 2 else s + 4
theorem zd_kd {N : Nat} {v w : zRow} {l ws : List Int32} (h : zr N v l) (hw : zr 20 w ws) (h0 : (0 : Int32) ∉ ws) {a d : Nat} (hb : a + d ≤ l.length) (hN : N < 10000) (s : Int32) : zf_X1_kindOf 10000 N w v (nI a) (nI (a + d)) s = some (zkd ws ((l.drop a).take d) s) := by
  unfold zf_X1_kindOf zf_X1_kindOf_b16 zf_X1_kindOf_b47 zkd zpl
  rw [zd_fs h hw h0 hb hN, Option.bind_some, zd_dig h hb hN]
  by_cases hs : s = 0 <;> by_cases hf : zfind (zpk ((l.drop a).take d)) ws 0 = -1 <;> cases hd : zdig ((l.drop a).take d) <;> simp [hs, hf, zlet_eq]
theorem zkd_b0 : ∀ p q : Bool, zbit ((if p = true then (0 : Int32) else if q = true then 1 + 2 else 0 + 4) &&& 1) := by unfold zbit; decide
theorem zkd_b1 : ∀ p q : Bool, zbit ((if p = true then (1 : Int32) else if q = true then 0 + 2 else 1 + 4) &&& 1) := by unfold zbit; decide
theorem zkd_bit {ws seg : List Int32} {s : Int32} (hs : zbit s) : zbit (zkd ws seg s &&& 1) := by
  unfold zkd
  rcases hs with rfl | rfl
  · simp only [↓reduceIte]
    exact zkd_b0 _ _
  · simp only [if_neg z10]
    exact zkd_b1 _ _
/-- what is printed: characters, lengths, kinds, words, shift, bells, questions -/
abbrev zPr : Type := List Int32 × List Int32 × List Int32 × List Int32 × Int32 × Int32 × Int32
def zrP (v : zPrinter) (P : zPr) (st : List Int32) : Prop := zr 200 v.1 P.1 ∧ zr 200 v.2.2.1 P.2.1 ∧ zr 200 v.2.2.2.1 P.2.2.1 ∧ zr 200 v.2.2.2.2.1 P.2.2.2.1 ∧ v.2.2.2.2.2 = P.2.2.2.2 ∧ zr 200 v.2.1 st
/-- a run printed -/
def zseg (ws seg : List Int32) (P : zPr) : zPr := (P.1 ++ seg.map (fun c => zchr c (zkd ws seg P.2.2.2.2.1 &&& 1)), P.2.1 ++ [nI seg.length], P.2.2.1 ++ [zkd ws seg P.2.2.2.2.1], P.2.2.2.1 ++ [if zkd ws seg P.2.2.2.2.1 &&& 1 = 0 then zfind (zpk seg) ws 0 else -1], zkd ws seg P.2.2.2.2.1 &&& 1, P.2.2.2.2.2)
theorem zd_prL {v0 : zPrinter} {v1 v4 : zRow} {l : List Int32} (h : zr 200 v1 l) (hc : ∀ c ∈ l, zcd c) {s : Int32} (hs : zbit s) {b : Nat} (hb : b ≤ l.length) (w1 w2 w3 w4 : zRow) : ∀ (d i n : Nat) (w0 : zRow) (pr : List Int32), i + d = b → d < n → zr 200 w0 pr → pr.length ≤ i →
    ∃ w', zf_X4_printSegment_L85 10000 v0 v1 v4 n (nI b) (nI i) w0 w1 w2 w3 w4 s = some (w', w1, w2, w3, w4, s, v0.2.2.2.2.2.2.1, v0.2.2.2.2.2.2.2) ∧ zr 200 w' (pr ++ ((l.drop i).take d).map (fun c => zchr c s))
  | d, i, 0, w0, pr, hd, hn, hw, hp => absurd hn (Nat.not_lt_zero _)
  | 0, i, n + 1, w0, pr, hd, hn, hw, hp => by
    have hlt := h.lt
    unfold zf_X4_printSegment_L85
    rw [if_pos (nI_le (by omega) (by omega)), List.take_zero, List.map_nil, List.append_nil]
    exact ⟨w0, rfl, hw⟩
  | d + 1, i, n + 1, w0, pr, hd, hn, hw, hp => by
    have hlt := h.lt
    have h200 := h.2.1
    have hi : i < l.length := by omega
    obtain ⟨w2', e2, g2⟩ := zp_add (fu := 10000) hw (by omega) (zchr l[i] s)
    unfold zf_X4_printSegment_L85
    rw [if_neg (nI_ge (by omega) (by omega)), zp_at h (List.getElem?_eq_getElem hi), Option.bind_some, zchr_c (hc _ (List.getElem_mem hi)) hs, Option.bind_some, e2, Option.bind_some, zlet_eq, nI_1, List.drop_eq_getElem_cons hi, List.take_succ_cons, List.map_cons]
    obtain ⟨w', e', g'⟩ := zd_prL h hc hs hb w1 w2 w3 w4 d (i + 1) n w2' _ (by omega) (by omega) g2 (by rw [List.length_append]; simp only [List.length_cons, List.length_nil]; omega)
    refine ⟨w', e', ?_⟩
    rw [List.append_assoc] at g'
    exact g'
theorem zd_seg {v : zPrinter} {P : zPr} {st : List Int32} {v1 v4 : zRow} {l ws : List Int32} (h : zr 200 v1 l) (hw : zr 20 v4 ws) (h0 : (0 : Int32) ∉ ws) (hc : ∀ c ∈ l, zcd c) (hP : zrP v P st) (hs : zbit P.2.2.2.2.1) {a d : Nat} (hd : 0 < d) (hb : a + d ≤ l.length) (hp : P.1.length ≤ a ∧ P.2.1.length ≤ a ∧ P.2.2.1.length ≤ a ∧ P.2.2.2.1.length ≤ a) (hst : st.length ≤ a) :
    ∃ v', zf_X4_printSegment 10000 v v1 v4 (nI a) (nI (a + d)) = some v' ∧ zrP v' (zseg ws ((l.drop a).take d) P) (st ++ [nI a]) := by
  obtain ⟨p1, p2, p3, p4, p5, p6⟩ := hP
  obtain ⟨q1, q2, q3, q4⟩ := hp
  have hlt := h.lt
  have h200 := h.2.1
  have hlen : ((l.drop a).take d).length = d := by rw [List.length_take, List.length_drop]; omega
  have hsh : v.2.2.2.2.2.1 = P.2.2.2.2.1 := by rw [p5]
  have hk := zkd_bit (ws := ws) (seg := (l.drop a).take d) hs
  obtain ⟨b4, e4, g4⟩ := zp_add (fu := 10000) p3 (by omega) (zkd ws ((l.drop a).take d) P.2.2.2.2.1)
  obtain ⟨b5, e5, g5⟩ := zp_add (fu := 10000) p6 (by omega) (nI a)
  obtain ⟨b6, e6, g6⟩ := zp_add (fu := 10000) p2 (by omega) (nI d)
  unfold zf_X4_printSegment zf_X1_shiftOfKind
  rw [if_pos (nI_lt (by omega) (by omega)), hsh, zd_kd h hw h0 hb (by omega), Option.bind_some, zlet_eq, Option.bind_some, e4, Option.bind_some, e5, Option.bind_some, nI_subL, e6, Option.bind_some]
  have b71 : ∀ z : Int32, ∃ v', zf_X4_printSegment_b79 10000 v v1 v4 (nI a) (nI (a + d)) z v.1 b5 b6 b4 v.2.2.2.2.1 (zkd ws ((l.drop a).take d) P.2.2.2.2.1 &&& 1) = some v' ∧ zrP v' (P.1 ++ ((l.drop a).take d).map (fun c => zchr c (zkd ws ((l.drop a).take d) P.2.2.2.2.1 &&& 1)), P.2.1 ++ [nI d], P.2.2.1 ++ [zkd ws ((l.drop a).take d) P.2.2.2.2.1], P.2.2.2.1 ++ [z], zkd ws ((l.drop a).take d) P.2.2.2.2.1 &&& 1, P.2.2.2.2.2) (st ++ [nI a]) := by
    intro z
    obtain ⟨b8, e8, g8⟩ := zp_add (fu := 10000) p4 (by omega) z
    unfold zf_X4_printSegment_b79
    rw [e8, Option.bind_some]
    obtain ⟨w', e', g'⟩ := zd_prL (v0 := v) (v4 := v4) h hc hk hb b5 b6 b4 b8 d a 10000 v.1 P.1 rfl (by omega) p1 q1
    refine ⟨_, e', g', g6, g4, g8, ?_, g5⟩
    show (_, v.2.2.2.2.2.2.1, v.2.2.2.2.2.2.2) = (_, P.2.2.2.2.2)
    rw [show (v.2.2.2.2.2.2.1, v.2.2.2.2.2.2.2) = v.2.2.2.2.2.2 from rfl, p5]
  unfold zseg
  rw [hlen]
  by_cases hz : zkd ws ((l.drop a).take d) P.2.2.2.2.1 &&& 1 = 0
  · rw [if_pos hz, zd_fs h hw h0 hb (by omega), Option.bind_some]
    have := b71 (zfind (zpk ((l.drop a).take d)) ws 0)
    rw [if_pos hz]
    exact this
  · rw [if_neg hz]
    have := b71 (-1)
    rw [if_neg hz]
    exact this
/-- where the runs of signs begin, and how long they are: the run from a on is open, r codes long -/
def zsg1 (a r : Nat) : List (Nat × Nat) := if r = 0 then [] else [(a, r)]
def zsgs : Nat → Nat → List Int32 → List (Nat × Nat)
  | a, r, [] => zsg1 a r
  | a, r, c :: cs => if zsg c = true then zsgs a (r + 1) cs else zsg1 a r ++ zsgs (a + r + 1) 0 cs
def zstl (q : List (Nat × Nat)) : List Int32 := q.map (fun p => nI p.1)
theorem zsg1_0 (a : Nat) : zsg1 a 0 = [] := if_pos rfl
theorem zsg1_s (a r : Nat) : zsg1 a (r + 1) = [(a, r + 1)] := if_neg (Nat.succ_ne_zero r)
theorem zstl_app (p q : List (Nat × Nat)) : zstl (p ++ q) = zstl p ++ zstl q := List.map_append
end ZD
