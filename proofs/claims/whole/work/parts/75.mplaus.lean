/-! ===== the pure part: the model reads a run of signs ===== -/
section ZMP
/-- the model's row of codes holds seg from a on -/
def zsg_at (m : zModel) (a : Nat) (seg : List Int32) : Prop := a + seg.length ≤ 201 ∧ ∀ j : Nat, j < seg.length → seg[j]? = some (m.2.2.2.2.2.2.2.2.2.2.2.2.2.2.2.1 (a + j))
theorem zsg_cd {m : zModel} {a : Nat} {seg : List Int32} (h : zsg_at m a seg) {j : Nat} (hj : j < seg.length) : m.2.2.2.2.2.2.2.2.2.2.2.2.2.2.2.1 (a + j) = seg[j] := by
  have := h.2 j hj
  rw [List.getElem?_eq_getElem hj] at this
  exact (Option.some.inj this).symm
theorem zm_iw0 {m : zModel} (k a l : Int32) (i : Int32) (n : Nat) : zf_X8_isWord_L24 10000 m (n + 1) k a l 0 i = some 0 := by
  unfold zf_X8_isWord_L24
  rw [if_pos rfl, if_pos (Or.inl rfl)]
  split <;> rfl
theorem zm_iwL {m : zModel} {W : List (List Int32)} (hm : zmw m.1 W) (h20 : W.length ≤ 20) (hw6 : ∀ w ∈ W, w.length ≤ 6) {k : Nat} {w : List Int32} (hw : W[k]? = some w) {a : Nat} {seg : List Int32} (hs : zsg_at m a seg) (hl : w.length = seg.length) : ∀ (d i n : Nat), i + d = seg.length → d < n →
    zf_X8_isWord_L24 10000 m n (nI k) (nI a) (nI seg.length) 1 (nI i) = some (if w.drop i = seg.drop i then 1 else 0)
  | d, i, 0, _, hn => absurd hn (Nat.not_lt_zero _)
  | 0, i, n + 1, hd, hn => by
    have h1 := hs.1
    unfold zf_X8_isWord_L24
    rw [if_pos (nI_le (by omega) (by omega)), if_pos (Or.inr rfl), List.drop_of_length_le (by omega), List.drop_of_length_le (by omega), if_pos rfl]
  | d + 1, i, n + 1, hd, hn => by
    have h1 := hs.1
    have hi : i < seg.length := by omega
    have hiw : i < w.length := by omega
    have hk := (List.getElem?_eq_some_iff.mp hw).1
    have h6 := hw6 w (List.mem_of_getElem? hw)
    have hx := (hm.2 k w hw).2 i hiw
    rw [List.getElem?_eq_getElem hiw] at hx
    have hx : w[i] = m.1 (826 + 6 * k + i) := Option.some.inj hx
    unfold zf_X8_isWord_L24 zf_X8_isWord_b68
    rw [if_neg (nI_ge hi (by omega)), if_neg z10, zlet_eq, e826, if_neg (nI_in (by omega) (by omega)), zlet_eq, zlet_eq, nI_add, if_neg (nI_in (by omega) (by omega)), zlet_eq, nI_clamp (by omega), nI_clamp (by omega), ← hx, zsg_cd hs hi, zlet_eq, zlet_eq, nI_1, List.drop_eq_getElem_cons hi, List.drop_eq_getElem_cons hiw]
    by_cases e : w[i] = seg[i]
    · rw [if_pos e, zm_iwL hm h20 hw6 hw hs hl d (i + 1) n (by omega) (by omega)]
      by_cases e2 : w.drop (i + 1) = seg.drop (i + 1)
      · rw [if_pos e2, if_pos (by rw [e, e2])]
      · rw [if_neg e2, if_neg (fun e3 => e2 (List.cons.inj e3).2)]
    · rw [if_neg e, if_neg (fun e3 => e (List.cons.inj e3).1)]
      obtain ⟨p, rfl⟩ : ∃ p, n = p + 1 := ⟨n - 1, by omega⟩
      exact zm_iw0 _ _ _ _ p
theorem zm_iw {m : zModel} {W : List (List Int32)} (hm : zmw m.1 W) (h20 : W.length ≤ 20) (hw6 : ∀ w ∈ W, w.length ≤ 6) {k : Nat} {w : List Int32} (hw : W[k]? = some w) {a : Nat} {seg : List Int32} (hs : zsg_at m a seg) : zf_X8_isWord 10000 m (nI k) (nI a) (nI seg.length) = some (if w = seg then 1 else 0) := by
  have h1 := hs.1
  have hk := (List.getElem?_eq_some_iff.mp hw).1
  have h6 := hw6 w (List.mem_of_getElem? hw)
  unfold zf_X8_isWord zf_X8_isWord_b19
  rw [zlet_eq, show (806 : Int32) + nI k = nI (806 + k) from nI_add 806 _, if_neg (nI_in (by omega) (by omega)), zlet_eq, nI_clamp (by omega), (hm.2 k w hw).1]
  by_cases hl : w.length = seg.length
  · have := zm_iwL hm h20 hw6 hw hs hl seg.length 0 10000 (by omega) (by omega)
    rw [nI_0, List.drop_zero, List.drop_zero] at this
    rw [if_pos (by rw [hl]), this]
  · rw [if_neg (fun e => hl ((nI_eq (by omega) (by omega)).mp e)), if_neg (fun e => hl (by rw [e]))]
    exact zm_iw0 _ _ _ _ 9999
theorem zm_pi1 {m : zModel} {W : List (List Int32)} (hm : zmw m.1 W) (h20 : W.length ≤ 20) (a l : Int32) : ∀ (d k n : Nat), k + d = W.length → d < n → zf_X8_isPlausible_L58 10000 m n a l 1 (nI k) = some 1
  | d, k, 0, _, hn => absurd hn (Nat.not_lt_zero _)
  | 0, k, n + 1, hd, hn => by
    unfold zf_X8_isPlausible_L58
    rw [zlet_eq, hm.1, if_pos (nI_le (by omega) (by omega)), if_pos (Or.inr rfl)]
  | d + 1, k, n + 1, hd, hn => by
    unfold zf_X8_isPlausible_L58 zf_X8_isPlausible_b87 zf_X8_isPlausible_b92
    rw [zlet_eq, hm.1, if_neg (nI_ge (by omega) (by omega)), if_neg z10, zlet_eq, nI_1]
    exact zm_pi1 hm h20 a l d (k + 1) n (by omega) (by omega)
theorem zm_pi0 {m : zModel} {W : List (List Int32)} (hm : zmw m.1 W) (h20 : W.length ≤ 20) (hw6 : ∀ w ∈ W, w.length ≤ 6) {a : Nat} {seg : List Int32} (hs : zsg_at m a seg) : ∀ (d k n : Nat), k + d = W.length → d < n → zf_X8_isPlausible_L58 10000 m n (nI a) (nI seg.length) 0 (nI k) = some (if seg ∈ W.drop k then 1 else 0)
  | d, k, 0, _, hn => absurd hn (Nat.not_lt_zero _)
  | 0, k, n + 1, hd, hn => by
    unfold zf_X8_isPlausible_L58
    rw [zlet_eq, hm.1, if_pos (nI_le (by omega) (by omega)), if_pos (Or.inl rfl), List.drop_of_length_le (by omega), if_neg List.not_mem_nil]
  | d + 1, k, n + 1, hd, hn => by
    have hk : k < W.length := by omega
    unfold zf_X8_isPlausible_L58 zf_X8_isPlausible_b87 zf_X8_isPlausible_b92
    rw [zlet_eq, hm.1, if_neg (nI_ge hk (by omega)), if_pos rfl, zm_iw hm h20 hw6 (List.getElem?_eq_getElem hk) hs, Option.bind_some, zlet_eq, zlet_eq, nI_1, zm_pi1 hm h20 _ _ d (k + 1) n (by omega) (by omega), zm_pi0 hm h20 hw6 hs d (k + 1) n (by omega) (by omega), List.drop_eq_getElem_cons hk]
    by_cases e : W[k] = seg
    · rw [if_pos e, if_neg z10, if_pos (by rw [e]; exact List.mem_cons_self)]
    · rw [if_neg e, if_pos rfl]
      by_cases e2 : seg ∈ W.drop (k + 1)
      · rw [if_pos e2, if_pos (List.mem_cons_of_mem _ e2)]
      · rw [if_neg e2, if_neg (fun h => (List.mem_cons.mp h).elim (fun h => e h.symm) e2)]
theorem zm_dg0 {m : zModel} (a : Int32) (l : Nat) (hl : l < 2 ^ 31) : ∀ (d i n : Nat), i + d = l → d < n → zf_X8_isPlausible_L11 10000 m n a (nI l) 0 (nI i) = some 0
  | d, i, 0, _, hn => absurd hn (Nat.not_lt_zero _)
  | 0, i, n + 1, hd, hn => by
    unfold zf_X8_isPlausible_L11
    rw [if_pos (nI_le (by omega) (by omega)), if_pos (Or.inl rfl)]
  | d + 1, i, n + 1, hd, hn => by
    unfold zf_X8_isPlausible_L11 zf_X8_isPlausible_b40 zf_X8_isPlausible_b41
    rw [if_neg (nI_ge (by omega) (by omega)), if_pos rfl, zlet_eq, nI_1]
    exact zm_dg0 a l hl d (i + 1) n (by omega) (by omega)
theorem zdig_1 {c : Int32} (h : zsg c = true) : (decide (1 ≤ c) && decide (c ≤ 10)) = !decide (11 ≤ c) := by
  unfold zsg at h
  rw [Bool.and_eq_true, decide_eq_true_eq, decide_eq_true_eq] at h
  rw [decide_eq_true h.1, Bool.true_and]
  by_cases e : 11 ≤ c
  · rw [decide_eq_true e, decide_eq_false (fun h2 => absurd (Int32.le_trans e h2) (by decide))]
    rfl
  · rw [decide_eq_false e]
    refine decide_eq_true ?_
    rw [Int32.le_iff_toInt_le] at *
    have e1 : (11 : Int32).toInt = 11 := by decide
    have e2 : (10 : Int32).toInt = 10 := by decide
    omega
theorem zm_dg1 {m : zModel} {a : Nat} {seg : List Int32} (hs : zsg_at m a seg) (hg : ∀ c ∈ seg, zsg c = true) : ∀ (d i n : Nat), i + d = seg.length → d < n → zf_X8_isPlausible_L11 10000 m n (nI a) (nI seg.length) 1 (nI i) = some (if zdig (seg.drop i) = true then 1 else 0)
  | d, i, 0, _, hn => absurd hn (Nat.not_lt_zero _)
  | 0, i, n + 1, hd, hn => by
    have h1 := hs.1
    unfold zf_X8_isPlausible_L11
    rw [if_pos (nI_le (by omega) (by omega)), if_pos (Or.inr rfl), List.drop_of_length_le (by omega)]
    rfl
  | d + 1, i, n + 1, hd, hn => by
    have h1 := hs.1
    have hi : i < seg.length := by omega
    unfold zf_X8_isPlausible_L11 zf_X8_isPlausible_b40 zf_X8_isPlausible_b41
    rw [if_neg (nI_ge hi (by omega)), if_neg z10, zlet_eq, nI_add, if_neg (nI_in (by omega) (by omega)), zlet_eq, nI_clamp (by omega), zsg_cd hs hi, zlet_eq, zlet_eq, nI_1, zm_dg0 _ seg.length (by omega) d (i + 1) n (by omega) (by omega), zm_dg1 hs hg d (i + 1) n (by omega) (by omega), List.drop_eq_getElem_cons hi]
    unfold zdig
    rw [List.all_cons, zdig_1 (hg _ (List.getElem_mem hi))]
    by_cases e : 11 ≤ seg[i]
    · rw [if_pos e, decide_eq_true e]
      rfl
    · rw [if_neg e, decide_eq_false e]
      rfl
theorem zm_pl {m : zModel} {W : List (List Int32)} (hm : zmw m.1 W) (h20 : W.length ≤ 20) (hwd : ∀ w ∈ W, zwd w) {a : Nat} {seg : List Int32} (hs : zsg_at m a seg) (hg : ∀ c ∈ seg, zsg c = true ∧ zcd c) (h0 : 0 < seg.length) {s : Int32} (hb : zbit s) : zf_X8_isPlausible 10000 m (nI a) (nI seg.length) s = some (if zpl (W.map zpk) seg s = true then 1 else 0) := by
  have h1 := hs.1
  unfold zf_X8_isPlausible zpl
  rcases hb with rfl | rfl
  · rw [if_neg (show ¬ (0 : Int32) = 1 by decide), if_pos rfl, zfind_w hg h0 W 0 hwd]
    have := zm_pi0 hm h20 (fun w hw => (hwd w hw).2.1) hs W.length 0 10000 (by omega) (by omega)
    rw [nI_0, List.drop_zero] at this
    rw [this]
    have hno := zfw_no (l := seg) W 0 (by omega)
    by_cases e : seg ∈ W
    · rw [if_pos e, decide_eq_false (fun h => (hno.mp h) e)]
      rfl
    · rw [if_neg e, decide_eq_true (hno.mpr e)]
      rfl
  · rw [if_pos rfl, if_neg z10]
    have := zm_dg1 hs (fun c hc => (hg c hc).1) seg.length 0 10000 (by omega) (by omega)
    rw [nI_0, List.drop_zero] at this
    exact this
end ZMP
