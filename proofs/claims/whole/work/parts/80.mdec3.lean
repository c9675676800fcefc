/-! ===== the pure part: the model decodes, the call ===== -/
section ZMD3
/-- the codes from the place j on, a code put in at the place p -/
def zput (p c : Int32) : Nat → List Int32 → List Int32
  | j, [] => if nI j = p then [c] else []
  | j, x :: xs => (if nI j = p then [c] else []) ++ x :: zput p c (j + 1) xs
theorem zput_len (p c : Int32) : ∀ (xs : List Int32) (j : Nat), xs.length ≤ (zput p c j xs).length
  | [], j => Nat.zero_le _
  | x :: xs, j => by
    have := zput_len p c xs (j + 1)
    unfold zput
    rw [List.length_append, List.length_cons, List.length_cons]
    omega
theorem zput_no (c : Int32) : ∀ (xs : List Int32) (j : Nat), j + xs.length < 2 ^ 31 → zput (-1) c j xs = xs
  | [], j, h => by
    unfold zput
    rw [if_neg (fun e => by
      have := nI_pos' (n := j) (Nat.lt_of_le_of_lt (Nat.le_add_right _ _) h)
      rw [e] at this
      exact absurd this (by decide))]
  | x :: xs, j, h => by
    have h : j + (xs.length + 1) < 2 ^ 31 := h
    unfold zput
    rw [if_neg (fun e => by
      have := nI_pos' (n := j) (by omega)
      rw [e] at this
      exact absurd this (by decide)), zput_no c xs (j + 1) (by omega)]
    rfl
theorem zput_pa (c : Int32) : ∀ (xs : List Int32) (i j : Nat), i < j → j + xs.length < 2 ^ 31 → zput (nI i) c j xs = xs
  | [], i, j, hi, h => by
    have h : j + 0 < 2 ^ 31 := h
    unfold zput
    rw [if_neg (fun e => by
      have := (nI_eq (by omega) (by omega)).mp e
      omega)]
  | x :: xs, i, j, hi, h => by
    have h : j + (xs.length + 1) < 2 ^ 31 := h
    unfold zput
    rw [if_neg (fun e => by
      have := (nI_eq (by omega) (by omega)).mp e
      omega), zput_pa c xs i (j + 1) (by omega) (by omega)]
    rfl
theorem zput_in (c : Int32) : ∀ (xs : List Int32) (i j : Nat), i ≤ xs.length → j + xs.length < 2 ^ 31 → zput (nI (j + i)) c j xs = xs.take i ++ c :: xs.drop i
  | [], i, j, hi, h => by
    have h : j + 0 < 2 ^ 31 := h
    obtain rfl : i = 0 := Nat.le_zero.mp hi
    unfold zput
    rw [Nat.add_zero, if_pos rfl]
    rfl
  | x :: xs, 0, j, hi, h => by
    have h : j + (xs.length + 1) < 2 ^ 31 := h
    unfold zput
    rw [Nat.add_zero, if_pos rfl, zput_pa c xs j (j + 1) (by omega) (by omega)]
    rfl
  | x :: xs, i + 1, j, hi, h => by
    have h : j + (xs.length + 1) < 2 ^ 31 := h
    have hi : i + 1 ≤ xs.length + 1 := hi
    unfold zput
    have := zput_in c xs i (j + 1) (by omega) (by omega)
    rw [if_neg (fun e => by
      have := (nI_eq (by omega) (by omega)).mp e
      omega), show j + (i + 1) = j + 1 + i by omega, this, List.take_succ_cons, List.drop_succ_cons]
    rfl
theorem zm_dc7 {v0 : zModel} {re : List Int32} (h200 : re.length ≤ 200) (p c : Int32) : ∀ (d j n : Nat) (m : zModel) (acc : List Int32), j + d = re.length → d + 1 < n → zml m.1 201 202 re → zfl m.2.2.2.2.2.2.2.2.2.2.2.2.2.2.2.1 m.2.2.2.2.2.2.2.2.2.2.2.2.2.2.2.2 acc → acc.length + (zput p c j (re.drop j)).length ≤ 201 →
    ∃ (f : Nat → Int32) (k : Int32), zf_X8_decodes_L7 10000 v0 n p c (nI j) m.1 m.2.1 m.2.2.1 m.2.2.2.1 m.2.2.2.2.1 m.2.2.2.2.2.1 m.2.2.2.2.2.2.1 m.2.2.2.2.2.2.2.1 m.2.2.2.2.2.2.2.2.1 m.2.2.2.2.2.2.2.2.2.1 m.2.2.2.2.2.2.2.2.2.2.1 m.2.2.2.2.2.2.2.2.2.2.2.1 m.2.2.2.2.2.2.2.2.2.2.2.2.1 m.2.2.2.2.2.2.2.2.2.2.2.2.2.1 m.2.2.2.2.2.2.2.2.2.2.2.2.2.2.1 m.2.2.2.2.2.2.2.2.2.2.2.2.2.2.2.1 m.2.2.2.2.2.2.2.2.2.2.2.2.2.2.2.2 = zf_X8_decodes_L118 10000 v0 10000 0 m.1 m.2.1 m.2.2.1 m.2.2.2.1 m.2.2.2.2.1 m.2.2.2.2.2.1 m.2.2.2.2.2.2.1 0 m.2.2.2.2.2.2.2.2.1 m.2.2.2.2.2.2.2.2.2.1 m.2.2.2.2.2.2.2.2.2.2.1 0 0 0 0 f k ∧ zfl f k (acc ++ zput p c j (re.drop j))
  | d, j, 0, m, acc, hd, hn, hm, hc, hl => absurd hn (Nat.not_lt_zero _)
  | 0, j, 1, m, acc, hd, hn, hm, hc, hl => absurd hn (by omega)
  | 0, j, n + 2, m, acc, hd, hn, hm, hc, hl => by
    rw [List.drop_of_length_le (by omega)] at hl ⊢
    unfold zput at hl ⊢
    unfold zf_X8_decodes_L7 zf_X8_decodes_b44 zf_X8_decodes_b85
    rw [zlet_eq, hm.1, if_neg (nI_nlt (by omega) (by omega))]
    by_cases e : nI j = p
    · have hl : acc.length + 1 ≤ 201 := by rw [if_pos e] at hl; exact hl
      rw [if_pos e, if_pos e, hc.1, if_neg (nI_in (by omega) (by omega)), zlet_eq, zlet_eq, nI_clamp (by omega), nI_1, zlet_eq, if_pos (nI_le (by omega) (by omega)), zlet_eq, nI_1]
      unfold zf_X8_decodes_L7
      rw [zlet_eq, hm.1, if_pos (nI_lt (by omega) (by omega))]
      exact ⟨_, _, rfl, zfl_add hc c⟩
    · rw [if_neg e, if_neg e, zlet_eq, if_pos (nI_le (by omega) (by omega)), zlet_eq, nI_1, List.append_nil]
      unfold zf_X8_decodes_L7
      rw [zlet_eq, hm.1, if_pos (nI_lt (by omega) (by omega))]
      exact ⟨_, _, rfl, hc⟩
  | d + 1, j, n + 1, m, acc, hd, hn, hm, hc, hl => by
    have hj : j < re.length := by omega
    have hx : m.1 (202 + j) = re[j] := by
      have := hm.2 j hj
      rw [List.getElem?_eq_getElem hj] at this
      exact (Option.some.inj this).symm
    rw [List.drop_eq_getElem_cons hj] at hl ⊢
    unfold zput at hl ⊢
    have b44 : ∀ (f : Nat → Int32) (k : Int32) (acc' : List Int32), zfl f k acc' → acc'.length + (re[j] :: zput p c (j + 1) (re.drop (j + 1))).length ≤ 201 →
        ∃ (f' : Nat → Int32) (k' : Int32), zf_X8_decodes_b44 10000 v0 (zf_X8_decodes_L7 10000 v0 n) p c (nI j) m.1 m.2.1 m.2.2.1 m.2.2.2.1 m.2.2.2.2.1 m.2.2.2.2.2.1 m.2.2.2.2.2.2.1 m.2.2.2.2.2.2.2.1 m.2.2.2.2.2.2.2.2.1 m.2.2.2.2.2.2.2.2.2.1 m.2.2.2.2.2.2.2.2.2.2.1 m.2.2.2.2.2.2.2.2.2.2.2.1 m.2.2.2.2.2.2.2.2.2.2.2.2.1 m.2.2.2.2.2.2.2.2.2.2.2.2.2.1 m.2.2.2.2.2.2.2.2.2.2.2.2.2.2.1 f k = zf_X8_decodes_L118 10000 v0 10000 0 m.1 m.2.1 m.2.2.1 m.2.2.2.1 m.2.2.2.2.1 m.2.2.2.2.2.1 m.2.2.2.2.2.2.1 0 m.2.2.2.2.2.2.2.2.1 m.2.2.2.2.2.2.2.2.2.1 m.2.2.2.2.2.2.2.2.2.2.1 0 0 0 0 f' k' ∧ zfl f' k' (acc' ++ re[j] :: zput p c (j + 1) (re.drop (j + 1))) := by
      intro f k acc' hf hl'
      rw [List.length_cons] at hl'
      unfold zf_X8_decodes_b44 zf_X8_decodes_b85
      rw [zlet_eq, hm.1, if_neg (nI_ge hj (by omega)), zlet_eq, show (202 : Int32) + nI j = nI (202 + j) from nI_add 202 _, if_neg (nI_in (by omega) (by omega)), zlet_eq, hf.1, if_neg (nI_in (by omega) (by omega)), zlet_eq, zlet_eq, nI_clamp (by omega), nI_clamp (by omega), hx, nI_1, zlet_eq, nI_1]
      obtain ⟨f', k', g1, g2⟩ := zm_dc7 (v0 := v0) h200 p c d (j + 1) n (m.1, m.2.1, m.2.2.1, m.2.2.2.1, m.2.2.2.2.1, m.2.2.2.2.2.1, m.2.2.2.2.2.2.1, m.2.2.2.2.2.2.2.1, m.2.2.2.2.2.2.2.2.1, m.2.2.2.2.2.2.2.2.2.1, m.2.2.2.2.2.2.2.2.2.2.1, m.2.2.2.2.2.2.2.2.2.2.2.1, m.2.2.2.2.2.2.2.2.2.2.2.2.1, m.2.2.2.2.2.2.2.2.2.2.2.2.2.1, m.2.2.2.2.2.2.2.2.2.2.2.2.2.2.1, upd f acc'.length re[j], nI (acc'.length + 1)) (acc' ++ [re[j]]) (by omega) (by omega) hm (zfl_add hf _) (by rw [List.length_append, List.length_singleton]; omega)
      refine ⟨f', k', g1, ?_⟩
      rw [List.append_assoc] at g2
      exact g2
    unfold zf_X8_decodes_L7
    rw [zlet_eq, hm.1, if_neg (nI_nlt (by omega) (by omega))]
    by_cases e : nI j = p
    · rw [if_pos e, List.length_append, List.length_singleton] at hl
      have hl0 : 1 ≤ (re[j] :: zput p c (j + 1) (re.drop (j + 1))).length := by rw [List.length_cons]; omega
      rw [if_pos e, if_pos e, hc.1, if_neg (nI_in (by omega) (by omega)), zlet_eq, zlet_eq, nI_clamp (by omega), nI_1]
      obtain ⟨f', k', g1, g2⟩ := b44 (upd m.2.2.2.2.2.2.2.2.2.2.2.2.2.2.2.1 acc.length c) (nI (acc.length + 1)) (acc ++ [c]) (zfl_add hc c) (by rw [List.length_append, List.length_singleton]; omega)
      refine ⟨f', k', g1, ?_⟩
      rw [List.append_assoc] at g2
      exact g2
    · rw [if_neg e, List.nil_append] at hl
      rw [if_neg e, if_neg e, List.nil_append]
      exact b44 m.2.2.2.2.2.2.2.2.2.2.2.2.2.2.2.1 m.2.2.2.2.2.2.2.2.2.2.2.2.2.2.2.2 acc hc hl
theorem zm_dec {m : zModel} {A : zAb} (h : zmR m A) (hk : zok A) (p c : Int32) {l : List Int32} (hl : zput p c 0 A.2.1.2.1 = l) (h201 : l.length ≤ 201) (hg : ∀ c ∈ l, zcd c) : ∃ m', zf_X8_decodes 10000 m p c = some m' ∧ zmQ A.2.1.2.2.2.2.1 l m' (zdec (A.2.1.2.2.2.2.1.map zpk) A.2.1.2.2.2.2.2.2 [] l zP0) ∧ m'.2.2.2.2.2.2.2.2.2.2.2.2.2.2.1 = (zdec (A.2.1.2.2.2.2.1.map zpk) A.2.1.2.2.2.2.2.2 [] l zP0).2.2.2.2.1 ∧ zmfr m m' := by
  have o3 := hk.2.2.1
  have h200 : A.2.1.2.1.length ≤ 200 := Nat.le_trans o3.2.1 o3.1
  obtain ⟨f, k, g1, g2⟩ := zm_dc7 (v0 := m) h200 p c A.2.1.2.1.length 0 10000 (m.1, m.2.1, m.2.2.1, m.2.2.2.1, m.2.2.2.2.1, m.2.2.2.2.2.1, m.2.2.2.2.2.2.1, m.2.2.2.2.2.2.2.1, m.2.2.2.2.2.2.2.2.1, m.2.2.2.2.2.2.2.2.2.1, m.2.2.2.2.2.2.2.2.2.2.1, m.2.2.2.2.2.2.2.2.2.2.2.1, m.2.2.2.2.2.2.2.2.2.2.2.2.1, m.2.2.2.2.2.2.2.2.2.2.2.2.2.1, m.2.2.2.2.2.2.2.2.2.2.2.2.2.2.1, m.2.2.2.2.2.2.2.2.2.2.2.2.2.2.2.1, 0) [] (by omega) (by omega) h.1.2.1 ⟨nI_0.symm, fun i hi => absurd hi (Nat.not_lt_zero _)⟩ (by rw [List.drop_zero, hl]; show 0 + l.length ≤ 201; omega)
  rw [List.drop_zero, hl, List.nil_append] at g2
  rw [nI_0] at g1
  unfold zf_X8_decodes
  rw [show zf_X8_decodes_L7 10000 m 10000 p c 0 m.1 m.2.1 m.2.2.1 m.2.2.2.1 m.2.2.2.2.1 m.2.2.2.2.2.1 m.2.2.2.2.2.2.1 m.2.2.2.2.2.2.2.1 m.2.2.2.2.2.2.2.2.1 m.2.2.2.2.2.2.2.2.2.1 m.2.2.2.2.2.2.2.2.2.2.1 m.2.2.2.2.2.2.2.2.2.2.2.1 m.2.2.2.2.2.2.2.2.2.2.2.2.1 m.2.2.2.2.2.2.2.2.2.2.2.2.2.1 m.2.2.2.2.2.2.2.2.2.2.2.2.2.2.1 m.2.2.2.2.2.2.2.2.2.2.2.2.2.2.2.1 0 = _ from g1]
  have hz : zfl m.2.2.2.2.2.2.1 0 [] ∧ zfl m.2.2.2.2.2.2.2.2.2.1 0 [] ∧ zfl m.2.2.2.2.2.2.2.2.2.2.1 0 [] := ⟨⟨nI_0.symm, fun i hi => absurd hi (Nat.not_lt_zero _)⟩, ⟨nI_0.symm, fun i hi => absurd hi (Nat.not_lt_zero _)⟩, ⟨nI_0.symm, fun i hi => absurd hi (Nat.not_lt_zero _)⟩⟩
  obtain ⟨m', k1, k2, k3, k4⟩ := zm_dL (v0 := m) o3.2.2.2.2.2.2.1 o3.2.2.2.2.2.2.2.1 h201 hg o3.un 10000 0 (m.1, m.2.1, m.2.2.1, m.2.2.2.1, m.2.2.2.2.1, m.2.2.2.2.2.1, m.2.2.2.2.2.2.1, 0, m.2.2.2.2.2.2.2.2.1, m.2.2.2.2.2.2.2.2.2.1, m.2.2.2.2.2.2.2.2.2.2.1, 0, 0, 0, 0, f, k) zP0 (Nat.zero_le _) (by omega) h.1.2.2.2.2.2.2 h.1.2.2.2.2.1 ⟨hz.1, hz.2.1, hz.2.2, rfl, rfl, rfl, rfl, g2, fun i hi => absurd hi (Nat.not_lt_zero _)⟩ rfl (Or.inl rfl) ⟨Nat.le_refl _, Nat.le_refl _, Nat.le_refl _, Nat.le_refl _⟩
  rw [nI_0] at k1
  rw [List.drop_zero] at k2 k3
  exact ⟨m', k1, k2, k3, k4⟩
theorem zm_dec0 {m : zModel} {A : zAb} (h : zmR m A) (hk : zok A) : ∃ m', zf_X8_decodes 10000 m (-1) 0 = some m' ∧ zmQ A.2.1.2.2.2.2.1 A.2.1.2.1 m' (zPn A.2.1) ∧ m'.2.2.2.2.2.2.2.2.2.2.2.2.2.2.1 = (zPn A.2.1).2.2.2.2.1 ∧ zmfr m m' := by
  have o3 := hk.2.2.1
  have h200 : A.2.1.2.1.length ≤ 200 := Nat.le_trans o3.2.1 o3.1
  exact zm_dec h hk (-1) 0 (zput_no 0 A.2.1.2.1 0 (by omega)) (by omega) o3.2.2.2.1
end ZMD3
