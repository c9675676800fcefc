/-! ===== the pure part: rows as lists ===== -/
section ZP
/-- the row v (of N cells) holds the list l -/
def zr (N : Nat) (v : zRow) (l : List Int32) : Prop := N < 2 ^ 30 ∧ l.length ≤ N ∧ v.2 = nI l.length ∧ ∀ i : Nat, i < l.length → l[i]? = some (v.1 i)
theorem zr.lt {N : Nat} {v : zRow} {l : List Int32} (h : zr N v l) : l.length < 2 ^ 31 := by have := h.1; have := h.2.1; omega
theorem zr.get {N : Nat} {v : zRow} {l : List Int32} (h : zr N v l) {i : Nat} {x : Int32} (hx : l[i]? = some x) : v.1 i = x := by
  have h1 := (List.getElem?_eq_some_iff.mp hx).1
  have h2 := h.2.2.2 i h1
  rw [hx] at h2
  exact (Option.some.inj h2).symm
theorem zlet_eq {α β : Type} (x : β) (k : β → Option α) : zlet x k = k x := rfl
theorem z10 : ¬ (1 : Int32) = 0 := by decide
theorem zp_nneg {i : Nat} (h : i < 2 ^ 31) : ¬ nI i < 0 := nI_pos h
theorem zp_size {fu N : Nat} {v : zRow} {l : List Int32} (h : zr N v l) : zf_X5_size fu N v = some (nI l.length) := by
  unfold zf_X5_size; rw [h.2.2.1]
theorem zp_has_in {fu N : Nat} {v : zRow} {l : List Int32} (h : zr N v l) {i : Nat} (hi : i < l.length) : zf_X5_has fu N v (nI i) = some 1 := by
  obtain ⟨hN, hl, hs, -⟩ := h
  unfold zf_X5_has
  rw [if_neg (nI_pos (by omega)), hs, if_neg (nI_ge hi (by omega)), if_neg (nI_ge (by omega) (by omega))]
theorem zp_has_neg {fu N : Nat} {v : zRow} {a : Int32} (ha : a < 0) : zf_X5_has fu N v a = some 0 := by
  unfold zf_X5_has
  rw [if_pos ha]
theorem zp_has_big {fu N : Nat} {v : zRow} {l : List Int32} (h : zr N v l) {i : Nat} (hi : l.length ≤ i) (h31 : i < 2 ^ 31) : zf_X5_has fu N v (nI i) = some 0 := by
  obtain ⟨hN, hl, hs, -⟩ := h
  unfold zf_X5_has
  rw [if_neg (nI_pos h31), hs, if_pos (nI_le hi h31)]
theorem zp_at {fu N : Nat} {v : zRow} {l : List Int32} (h : zr N v l) {i : Nat} {x : Int32} (hx : l[i]? = some x) : zf_X5_at fu N v (nI i) = some x := by
  have hi := (List.getElem?_eq_some_iff.mp hx).1
  have hlt := h.lt
  have hN := h.1
  have hl := h.2.1
  unfold zf_X5_at
  rw [if_neg (nI_pos (by omega)), h.2.2.1, if_neg (nI_ge hi hlt), if_neg (nI_ge (b := N) (by omega) (by omega)), if_neg (nI_in (Nat.lt_of_lt_of_le hi hl) (by omega)), zlet_eq, nI_clamp (by omega), h.get hx]
theorem zp_at0 {fu N : Nat} {v : zRow} {l : List Int32} (h : zr N v l) {i : Nat} (hi : l.length ≤ i) (h31 : i < 2 ^ 31) : zf_X5_at fu N v (nI i) = some 0 := by
  unfold zf_X5_at
  rw [if_neg (nI_pos h31), h.2.2.1, if_pos (nI_le hi h31)]
theorem zp_set {fu N : Nat} {v : zRow} {l : List Int32} (h : zr N v l) {i : Nat} (hi : i < l.length) (x : Int32) : ∃ v', zf_X5_set fu N v (nI i) x = some v' ∧ zr N v' (l.set i x) := by
  refine ⟨(upd v.1 i x, v.2), ?_, h.1, by rw [List.length_set]; exact h.2.1, by rw [List.length_set]; exact h.2.2.1, fun j hj => ?_⟩
  · unfold zf_X5_set
    rw [zp_has_in h hi, Option.bind_some, if_neg z10, if_neg (nI_in (Nat.lt_of_lt_of_le hi h.2.1) (by have := h.1; omega)), zlet_eq, nI_clamp (by have := h.lt; omega)]
  · rw [List.length_set] at hj
    show _ = some (upd v.1 i x j)
    unfold upd
    by_cases hji : j = i
    · subst hji
      rw [if_pos rfl, List.getElem?_set_self hj]
    · rw [if_neg hji, List.getElem?_set_ne (fun e => hji e.symm)]
      exact h.2.2.2 j hj
theorem zp_add {fu N : Nat} {v : zRow} {l : List Int32} (h : zr N v l) (hl : l.length < N) (x : Int32) : ∃ v', zf_X5_add fu N v x = some v' ∧ zr N v' (l ++ [x]) := by
  have hlt := h.lt
  have hN := h.1
  refine ⟨(upd v.1 l.length x, nI (l.length + 1)), ?_, h.1, by rw [List.length_append]; exact hl, by rw [List.length_append]; rfl, fun j hj => ?_⟩
  · unfold zf_X5_add
    rw [h.2.2.1, if_neg (nI_pos hlt), if_neg (nI_ge hl (by omega)), if_neg (nI_in hl (by omega)), zlet_eq, zlet_eq, nI_clamp hlt, nI_1]
  · rw [List.length_append] at hj
    have hj : j < l.length + 1 := hj
    show _ = some (upd v.1 l.length x j)
    unfold upd
    by_cases hji : j = l.length
    · subst hji
      rw [if_pos rfl]
      simp
    · rw [if_neg hji, List.getElem?_append_left (by omega)]
      exact h.2.2.2 j (by omega)
theorem zp_clear {fu N : Nat} {v : zRow} {l : List Int32} (h : zr N v l) : ∃ v', zf_X5_clear fu N v = some v' ∧ zr N v' [] :=
  ⟨(v.1, 0), rfl, h.1, Nat.zero_le _, by show (0 : Int32) = nI 0; exact nI_0.symm, fun i hi => absurd hi (Nat.not_lt_zero _)⟩
theorem zp_shorten {fu N : Nat} {v : zRow} {l : List Int32} (h : zr N v l) {k : Nat} (hk : k ≤ l.length) : ∃ v', zf_X5_shorten fu N v (nI k) = some v' ∧ zr N v' (l.take k) := by
  have hlt := h.lt
  unfold zf_X5_shorten
  rw [if_neg (nI_pos (by omega)), h.2.2.1]
  by_cases hkl : l.length ≤ k
  · rw [if_pos (nI_le hkl (by omega)), List.take_of_length_le hkl]
    exact ⟨v, rfl, h⟩
  · rw [if_neg (nI_ge (by omega) (by omega))]
    refine ⟨(v.1, nI k), rfl, h.1, by rw [List.length_take]; have := h.2.1; omega, by rw [List.length_take, Nat.min_eq_left hk], fun i hi => ?_⟩
    rw [List.length_take] at hi
    rw [List.getElem?_take_of_lt (by omega)]
    exact h.2.2.2 i (by omega)
theorem zp_copyL {fu N N1 : Nat} {v0 v1 : zRow} {l1 : List Int32} (h1 : zr N1 v1 l1) (hN : l1.length ≤ N) : ∀ (d i n : Nat) (w : zRow) (l : List Int32), i + d = l1.length → d < n → l = l1.take i → zr N w l → ∃ v', zf_X5_copyFrom_L6 fu N N1 v0 v1 n (nI i) w.1 w.2 = some v' ∧ zr N v' l1
  | d, i, 0, w, l, hd, hn, hl, hw => absurd hn (Nat.not_lt_zero _)
  | 0, i, n + 1, w, l, hd, hn, hl, hw => by
    have hi : i = l1.length := by omega
    refine ⟨w, ?_, by rw [hl, List.take_of_length_le (by omega)] at hw; exact hw⟩
    unfold zf_X5_copyFrom_L6
    rw [h1.2.2.1, if_pos (nI_le (by omega) (by have := h1.lt; omega))]
  | d + 1, i, n + 1, w, l, hd, hn, hl, hw => by
    have hi : i < l1.length := by omega
    have hlt := h1.lt
    unfold zf_X5_copyFrom_L6
    rw [h1.2.2.1, if_neg (nI_ge hi (by omega)), zp_at h1 (List.getElem?_eq_getElem hi), Option.bind_some]
    have hll : l.length = i := by rw [hl, List.length_take]; omega
    obtain ⟨w', e1, e2⟩ := zp_add (fu := fu) hw (by omega) l1[i]
    rw [show ((w.1, w.2) : zRow) = w from rfl, e1, Option.bind_some, zlet_eq, nI_1]
    exact zp_copyL h1 hN d (i + 1) n w' _ (by omega) (by omega) (by rw [hl, List.take_add_one, List.getElem?_eq_getElem hi]; rfl) e2
theorem zp_copyFrom {fu N N1 : Nat} {v0 v1 : zRow} {l0 l1 : List Int32} (h0 : zr N v0 l0) (h1 : zr N1 v1 l1) (hN : l1.length ≤ N) (hf : l1.length < fu) : ∃ v', zf_X5_copyFrom fu N N1 v0 v1 = some v' ∧ zr N v' l1 := by
  obtain ⟨w, e1, e2⟩ := zp_clear (fu := fu) h0
  unfold zf_X5_copyFrom
  rw [e1]
  exact zp_copyL h1 hN l1.length 0 fu w [] (by omega) hf (by simp) e2
theorem zp_fillL {fu N k : Nat} {v0 : zRow} {x : Int32} (hk : k ≤ N) : ∀ (d i n : Nat) (w : zRow), i + d = k → d < n → zr N w (List.replicate i x) → ∃ v', zf_X5_fill_L6 fu N v0 n (nI k) x (nI i) w.1 w.2 = some v' ∧ zr N v' (List.replicate k x)
  | d, i, 0, w, hd, hn, hw => absurd hn (Nat.not_lt_zero _)
  | 0, i, n + 1, w, hd, hn, hw => by
    have hi : i = k := by omega
    subst hi
    refine ⟨w, ?_, hw⟩
    unfold zf_X5_fill_L6
    rw [if_pos (nI_le (Nat.le_refl _) (by have := hw.1; omega))]
  | d + 1, i, n + 1, w, hd, hn, hw => by
    have hN := hw.1
    unfold zf_X5_fill_L6
    rw [if_neg (nI_ge (by omega) (by omega))]
    obtain ⟨w', e1, e2⟩ := zp_add (fu := fu) hw (by rw [List.length_replicate]; omega) x
    rw [show ((w.1, w.2) : zRow) = w from rfl, e1, Option.bind_some, zlet_eq, nI_1]
    exact zp_fillL hk d (i + 1) n w' (by omega) (by omega) (by rw [List.replicate_succ']; exact e2)
theorem zp_fill {fu N k : Nat} {v0 : zRow} {l : List Int32} {x : Int32} (h0 : zr N v0 l) (hk : k ≤ N) (hf : k < fu) : ∃ v', zf_X5_fill fu N v0 (nI k) x = some v' ∧ zr N v' (List.replicate k x) := by
  obtain ⟨w, e1, e2⟩ := zp_clear (fu := fu) h0
  unfold zf_X5_fill
  rw [e1]
  exact zp_fillL hk k 0 fu w (by omega) hf e2
theorem zp_countL {fu N : Nat} {v : zRow} {l : List Int32} (h : zr N v l) (a : Int32) : ∀ (d i n c : Nat), i + d = l.length → d < n → zf_X5_count_L4 fu N v n a (nI c) (nI i) = some (nI (c + (l.drop i).count a))
  | d, i, 0, c, hd, hn => absurd hn (Nat.not_lt_zero _)
  | 0, i, n + 1, c, hd, hn => by
    have hlt := h.lt
    unfold zf_X5_count_L4
    rw [h.2.2.1, if_pos (nI_le (by omega) (by omega)), List.drop_of_length_le (by omega)]
    rfl
  | d + 1, i, n + 1, c, hd, hn => by
    have hlt := h.lt
    have hi : i < l.length := by omega
    unfold zf_X5_count_L4
    rw [h.2.2.1, if_neg (nI_ge hi (by omega)), zp_at h (List.getElem?_eq_getElem hi), Option.bind_some, List.drop_eq_getElem_cons hi, List.count_cons]
    unfold zf_X5_count_b24
    by_cases ha : l[i] = a
    · rw [if_pos ha, zlet_eq, zlet_eq, nI_1, nI_1, zp_countL h a d (i + 1) n (c + 1) (by omega) (by omega), if_pos (by simpa using ha)]
      congr 2
      omega
    · rw [if_neg ha, zlet_eq, nI_1, zp_countL h a d (i + 1) n c (by omega) (by omega), if_neg (by simpa using ha)]
      congr 2
theorem zp_count {fu N : Nat} {v : zRow} {l : List Int32} (h : zr N v l) (hf : l.length < fu) (a : Int32) : zf_X5_count fu N v a = some (nI (l.count a)) := by
  unfold zf_X5_count
  have := zp_countL (fu := fu) h a l.length 0 fu 0 (by omega) hf
  rw [nI_0, Nat.zero_add, List.drop_zero] at this
  exact this
/-- the place of the first a, or -1 -/
def zfind (a : Int32) : List Int32 → Nat → Int32
  | [], _ => -1
  | x :: xs, i => if x = a then nI i else zfind a xs (i + 1)
theorem zp_findL {fu N : Nat} {v : zRow} {l : List Int32} (h : zr N v l) (a : Int32) : ∀ (d i n : Nat), i + d = l.length → d < n → zf_X5_find_L2 fu N v n a (nI i) = some (zfind a (l.drop i) i)
  | d, i, 0, hd, hn => absurd hn (Nat.not_lt_zero _)
  | 0, i, n + 1, hd, hn => by
    have hlt := h.lt
    unfold zf_X5_find_L2
    rw [h.2.2.1, if_pos (nI_le (by omega) (by omega)), List.drop_of_length_le (by omega)]
    rfl
  | d + 1, i, n + 1, hd, hn => by
    have hlt := h.lt
    have hi : i < l.length := by omega
    unfold zf_X5_find_L2
    rw [h.2.2.1, if_neg (nI_ge hi (by omega)), zp_at h (List.getElem?_eq_getElem hi), Option.bind_some, List.drop_eq_getElem_cons hi]
    rw [show zfind a (l[i] :: l.drop (i + 1)) i = if l[i] = a then nI i else zfind a (l.drop (i + 1)) (i + 1) from rfl]
    by_cases ha : l[i] = a
    · rw [if_pos ha, if_pos ha]
    · rw [if_neg ha, if_neg ha, zlet_eq, nI_1, zp_findL h a d (i + 1) n (by omega) (by omega)]
theorem zp_find {fu N : Nat} {v : zRow} {l : List Int32} (h : zr N v l) (hf : l.length < fu) (a : Int32) : zf_X5_find fu N v a = some (zfind a l 0) := by
  unfold zf_X5_find
  have := zp_findL (fu := fu) h a l.length 0 fu (by omega) hf
  rw [nI_0, List.drop_zero] at this
  exact this
/-- the digest's step over a list -/
def zhash (l : List Int32) (h : Int64) : Int64 := l.foldl (fun h x => 31 * h + x.toInt64) h
theorem zp_hashL {fu N : Nat} {v : zRow} {l : List Int32} (h : zr N v l) : ∀ (d i n : Nat) (y : Int64), i + d = l.length → d < n → zf_X5_hashOnto_L5 fu N v n y (nI i) = some (zhash (l.drop i) y)
  | d, i, 0, y, hd, hn => absurd hn (Nat.not_lt_zero _)
  | 0, i, n + 1, y, hd, hn => by
    have hlt := h.lt
    unfold zf_X5_hashOnto_L5
    rw [h.2.2.1, if_pos (nI_le (by omega) (by omega)), List.drop_of_length_le (by omega)]
    rfl
  | d + 1, i, n + 1, y, hd, hn => by
    have hlt := h.lt
    have hi : i < l.length := by omega
    unfold zf_X5_hashOnto_L5
    rw [h.2.2.1, if_neg (nI_ge hi (by omega)), zp_at h (List.getElem?_eq_getElem hi), Option.bind_some, List.drop_eq_getElem_cons hi]
    rw [zlet_eq, zlet_eq, nI_1, zp_hashL h d (i + 1) n _ (by omega) (by omega)]
    rfl
theorem zp_hash {fu N : Nat} {v : zRow} {l : List Int32} (h : zr N v l) (hf : l.length < fu) (y : Int64) : zf_X5_hashOnto fu N v y = some (zhash l y) := by
  unfold zf_X5_hashOnto
  have := zp_hashL (fu := fu) h l.length 0 fu y (by omega) hf
  rw [nI_0, List.drop_zero] at this
  exact this
theorem zp_removeL {fu N : Nat} {v0 : zRow} {l0 : List Int32} : ∀ (d i n : Nat) (w : zRow) (l : List Int32), i + d = l.length → 0 < i → d < n → zr N w l → ∃ v', zf_X5_remove_L13 fu N v0 n (nI i) w.1 w.2 = some v' ∧ zr N v' (l.take (i - 1) ++ l.drop i)
  | d, i, 0, w, l, hd, h0, hn, hw => absurd hn (Nat.not_lt_zero _)
  | 0, i, n + 1, w, l, hd, h0, hn, hw => by
    have hlt := hw.lt
    obtain ⟨j, rfl⟩ : ∃ j, i = j + 1 := ⟨i - 1, by omega⟩
    unfold zf_X5_remove_L13
    rw [hw.2.2.1, if_pos (nI_le (by omega) (by omega)), zlet_eq, show l.length = j + 1 by omega, nI_pred, List.drop_of_length_le (by omega), List.append_nil, Nat.add_sub_cancel]
    refine ⟨_, rfl, hw.1, by rw [List.length_take]; have := hw.2.1; omega, by rw [List.length_take, Nat.min_eq_left (by omega)], fun k hk => ?_⟩
    rw [List.length_take] at hk
    rw [List.getElem?_take_of_lt (by omega)]
    exact hw.2.2.2 k (by omega)
  | d + 1, i, n + 1, w, l, hd, h0, hn, hw => by
    have hlt := hw.lt
    have hi : i < l.length := by omega
    obtain ⟨j, rfl⟩ : ∃ j, i = j + 1 := ⟨i - 1, by omega⟩
    unfold zf_X5_remove_L13
    rw [hw.2.2.1, if_neg (nI_ge hi (by omega)), ← hw.2.2.1]
    rw [show ((w.1, w.2) : zRow) = w from rfl, zp_at hw (List.getElem?_eq_getElem hi), Option.bind_some, nI_pred]
    obtain ⟨w', e1, e2⟩ := zp_set (fu := fu) hw (i := j) (by omega) l[j + 1]
    rw [e1, Option.bind_some, zlet_eq, nI_1]
    obtain ⟨v', e3, e4⟩ := zp_removeL (l0 := l0) d (j + 1 + 1) n w' _ (by rw [List.length_set]; omega) (by omega) (by omega) e2
    refine ⟨v', e3, ?_⟩
    have e5 : (l.set j l[j + 1]).take (j + 1 + 1 - 1) ++ (l.set j l[j + 1]).drop (j + 1 + 1) = l.take (j + 1 - 1) ++ l.drop (j + 1) := by
      rw [List.drop_set_of_lt (by omega), Nat.add_sub_cancel, Nat.add_sub_cancel, List.drop_eq_getElem_cons hi, List.take_add_one, List.getElem?_set_self (by omega), List.take_set_of_le (Nat.le_refl _)]
      simp
    rw [e5] at e4
    exact e4
theorem zp_remove {fu N : Nat} {v : zRow} {l : List Int32} (h : zr N v l) {i : Nat} (hi : i < l.length) (hf : l.length < fu) : ∃ v', zf_X5_remove fu N v (nI i) = some v' ∧ zr N v' (l.eraseIdx i) := by
  unfold zf_X5_remove
  rw [zp_has_in h hi, Option.bind_some, if_neg z10, zlet_eq, nI_1]
  obtain ⟨v', e1, e2⟩ := zp_removeL (fu := fu) (v0 := v) (l0 := l) (l.length - (i + 1)) (i + 1) fu v l (by omega) (by omega) (by omega) h
  refine ⟨v', e1, ?_⟩
  rw [List.eraseIdx_eq_take_drop_succ]
  exact e2
end ZP
