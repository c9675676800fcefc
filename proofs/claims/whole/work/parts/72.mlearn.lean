/-! ===== the pure part: the model learns ===== -/
section ZMLN
theorem zlet0_m (c : Int32) : zf_X8_isLetter 10000 c = some (if zlet0 c = true then 1 else 0) := by
  unfold zf_X8_isLetter
  rw [show zf_X8_in 10000 c 97 122 = some (if zlet0 c = true then 1 else 0) from zlet0_c c, Option.bind_some]
  cases zlet0 c
  · simp only [Bool.false_eq_true, ↓reduceIte, true_or]
  · simp only [↓reduceIte, or_true]
theorem zm_bf {m : zModel} {A : zAb} (h : zmR m A) {i : Nat} (hi : i < A.1.length) : m.2.2.2.1 i = A.1[i] := by
  have := h.2.2.2.2 i hi
  rw [List.getElem?_eq_getElem hi] at this
  exact (Option.some.inj this).symm
theorem zm_hw0 {m : zModel} {A : zAb} (h : zmR m A) (hk : zok A) : ∀ (d i n : Nat), i + d = A.1.length → d < n → zf_X8_hasWord_L13 10000 m n 0 (nI i) = some 0
  | d, i, 0, _, hn => absurd hn (Nat.not_lt_zero _)
  | 0, i, n + 1, hd, hn => by
    have h60 := hk.2.1
    unfold zf_X8_hasWord_L13
    rw [h.2.2.2.1, if_pos (nI_le (by omega) (by omega)), if_pos (Or.inl rfl)]
  | d + 1, i, n + 1, hd, hn => by
    have h60 := hk.2.1
    unfold zf_X8_hasWord_L13 zf_X8_hasWord_b41 zf_X8_hasWord_b42
    rw [h.2.2.2.1, if_neg (nI_ge (by omega) (by omega)), if_pos rfl, zlet_eq, nI_1]
    exact zm_hw0 h hk d (i + 1) n (by omega) (by omega)
theorem zm_hw1 {m : zModel} {A : zAb} (h : zmR m A) (hk : zok A) : ∀ (d i n : Nat), i + d = A.1.length → d < n → zf_X8_hasWord_L13 10000 m n 1 (nI i) = some (if (A.1.drop i).all zlet0 = true then 1 else 0)
  | d, i, 0, _, hn => absurd hn (Nat.not_lt_zero _)
  | 0, i, n + 1, hd, hn => by
    have h60 := hk.2.1
    unfold zf_X8_hasWord_L13
    rw [h.2.2.2.1, if_pos (nI_le (by omega) (by omega)), if_pos (Or.inr rfl), List.drop_of_length_le (by omega)]
    rfl
  | d + 1, i, n + 1, hd, hn => by
    have h60 := hk.2.1
    have hi : i < A.1.length := by omega
    unfold zf_X8_hasWord_L13 zf_X8_hasWord_b41 zf_X8_hasWord_b42
    rw [h.2.2.2.1, if_neg (nI_ge hi (by omega)), if_neg z10, if_neg (nI_in (by omega) (by omega)), zlet_eq, nI_clamp (by omega), zm_bf h hi, zlet0_m, Option.bind_some, List.drop_eq_getElem_cons hi, List.all_cons, zlet_eq, zlet_eq, nI_1, zm_hw0 h hk d (i + 1) n (by omega) (by omega), zm_hw1 h hk d (i + 1) n (by omega) (by omega)]
    cases hz : zlet0 A.1[i] with
    | false => simp only [Bool.false_eq_true, ↓reduceIte, Bool.false_and]
    | true => simp only [↓reduceIte, Bool.true_and, if_neg z10]
theorem zm_hw {m : zModel} {A : zAb} (h : zmR m A) (hk : zok A) : zf_X8_hasWord 10000 m = some (if ¬ (A.1.length ≤ 6 ∧ A.1.all zlet0 = true) ∨ A.1 = [] then 0 else 1) := by
  have h60 := hk.2.1
  unfold zf_X8_hasWord zf_X8_in
  rw [h.2.2.2.1]
  by_cases hb : A.1 = []
  · rw [if_pos (show nI A.1.length < 1 by rw [hb]; decide), Option.bind_some, if_pos (Or.inr hb)]
    have := zm_hw0 h hk A.1.length 0 10000 (by omega) (by omega)
    rw [nI_0] at this
    exact this
  have hpos : 0 < A.1.length := List.length_pos_iff.mpr hb
  rw [if_neg (show ¬ nI A.1.length < 1 from nI_nlt (b := 1) hpos (by omega))]
  by_cases h6 : A.1.length ≤ 6
  · rw [if_neg (show ¬ 6 < nI A.1.length from nI_nlt (a := 6) h6 (by omega)), Option.bind_some]
    have := zm_hw1 h hk A.1.length 0 10000 (by omega) (by omega)
    rw [nI_0, List.drop_zero] at this
    rw [this]
    by_cases ha : A.1.all zlet0 = true
    · rw [if_pos ha, if_neg (fun h => h.elim (fun h => h ⟨h6, ha⟩) hb)]
    · rw [if_neg ha, if_pos (Or.inl (fun h => ha h.2))]
  · rw [if_pos (show 6 < nI A.1.length from nI_lt (a := 6) (by omega) (by omega)), Option.bind_some, if_pos (Or.inl (fun h => h6 h.1))]
    have := zm_hw0 h hk A.1.length 0 10000 (by omega) (by omega)
    rw [nI_0] at this
    exact this
/-- the place of a list among words, or their number -/
def zfi (l : List Int32) : List (List Int32) → Nat → Nat
  | [], i => i
  | w :: ws, i => if w = l then i else zfi l ws (i + 1)
theorem zfi_le (l : List Int32) : ∀ (ws : List (List Int32)) (i : Nat), i ≤ zfi l ws i ∧ zfi l ws i ≤ i + ws.length
  | [], i => ⟨Nat.le_refl _, Nat.le_refl _⟩
  | w :: ws, i => by
    obtain ⟨h1, h2⟩ := zfi_le l ws (i + 1)
    unfold zfi
    rw [List.length_cons]
    split
    · exact ⟨Nat.le_refl _, by omega⟩
    · exact ⟨by omega, by omega⟩
theorem zfi_no {l : List Int32} : ∀ (ws : List (List Int32)) (i : Nat), l ∉ ws → zfi l ws i = i + ws.length
  | [], i, _ => rfl
  | w :: ws, i, h => by
    unfold zfi
    rw [if_neg (fun e => h (by rw [e]; exact List.mem_cons_self)), zfi_no ws (i + 1) (fun h2 => h (List.mem_cons_of_mem _ h2)), List.length_cons]
    omega
theorem zfi_in {l : List Int32} : ∀ (ws : List (List Int32)) (i : Nat), l ∈ ws → zfi l ws i < i + ws.length
  | [], i, h => absurd h List.not_mem_nil
  | w :: ws, i, h => by
    unfold zfi
    rw [List.length_cons]
    split
    · omega
    · rename_i e
      rcases List.mem_cons.mp h with rfl | h
      · exact absurd rfl e
      · have := zfi_in ws (i + 1) h
        omega
theorem zm_kn450 {m : zModel} (rec4 : Int32 → Int32 → Option Int32) (k i : Int32) (n : Nat) : zf_X8_known_L45 10000 m rec4 (n + 1) k 0 i = zf_X8_known_b96 10000 m rec4 k 0 := by
  unfold zf_X8_known_L45
  rw [if_pos rfl]
  split <;> rfl
theorem zm_kn45 {m : zModel} {A : zAb} (h : zmR m A) (hk : zok A) (rec4 : Int32 → Int32 → Option Int32) {k : Nat} {w : List Int32} (hw : A.2.1.2.2.2.2.1[k]? = some w) (hl : w.length = A.1.length) : ∀ (d i n : Nat), i + d = A.1.length → d < n →
    zf_X8_known_L45 10000 m rec4 n (nI k) 1 (nI i) = zf_X8_known_b96 10000 m rec4 (nI k) (if w.drop i = (A.1.map zcode).drop i then 1 else 0)
  | d, i, 0, _, hn => absurd hn (Nat.not_lt_zero _)
  | 0, i, n + 1, hd, hn => by
    have h60 := hk.2.1
    unfold zf_X8_known_L45
    rw [h.2.2.2.1, if_pos (nI_le (by omega) (by omega)), List.drop_of_length_le (by omega), List.drop_of_length_le (by rw [List.length_map]; omega), if_pos rfl]
  | d + 1, i, n + 1, hd, hn => by
    have h60 := hk.2.1
    have hi : i < A.1.length := by omega
    have hiw : i < w.length := by omega
    have hki := (List.getElem?_eq_some_iff.mp hw).1
    have h20 := hk.2.2.1.2.2.2.2.2.2.1
    have hw6 := (hk.2.2.1.2.2.2.2.2.2.2.1 w (List.mem_of_getElem? hw)).2.1
    have hc := hk.1 _ (List.getElem_mem hi)
    have hx := (h.1.2.2.2.2.2.2.2 k w hw).2 i hiw
    rw [List.getElem?_eq_getElem hiw] at hx
    have hx : w[i] = m.1 (826 + 6 * k + i) := Option.some.inj hx
    unfold zf_X8_known_L45 zf_X8_known_b89
    rw [h.2.2.2.1, if_neg (nI_ge hi (by omega)), if_neg z10, zlet_eq, e826, if_neg (nI_in (by omega) (by omega)), zlet_eq, if_neg (nI_in (by omega) (by omega)), zlet_eq, nI_clamp (by omega), nI_clamp (by omega), zm_bf h hi, zcode_m, if_neg hc, Option.bind_some, ← hx, zlet_eq, zlet_eq, nI_1]
    rw [List.drop_eq_getElem_cons hiw, List.drop_eq_getElem_cons (l := A.1.map zcode) (by rw [List.length_map]; exact hi), List.getElem_map]
    by_cases e : w[i] = zcode A.1[i]
    · rw [if_pos e, zm_kn45 h hk rec4 hw hl d (i + 1) n (by omega) (by omega)]
      by_cases e2 : w.drop (i + 1) = (A.1.map zcode).drop (i + 1)
      · rw [if_pos e2, if_pos (by rw [e, e2])]
      · rw [if_neg e2, if_neg (fun e3 => e2 (List.cons.inj e3).2)]
    · rw [if_neg e, if_neg (fun e3 => e (List.cons.inj e3).1)]
      obtain ⟨p, rfl⟩ : ∃ p, n = p + 1 := ⟨n - 1, by omega⟩
      exact zm_kn450 _ _ _ p
theorem zm_kn4 {m : zModel} {A : zAb} (h : zmR m A) (hk : zok A) : ∀ (d k n : Nat), k + d = A.2.1.2.2.2.2.1.length → d + 1 < n →
    zf_X8_known_L4 10000 m n (nI k) 0 = some (nI (zfi (A.1.map zcode) (A.2.1.2.2.2.2.1.drop k) k))
  | d, k, 0, _, hn => absurd hn (Nat.not_lt_zero _)
  | 0, k, n + 1, hd, hn => by
    have h20 := hk.2.2.1.2.2.2.2.2.2.1
    unfold zf_X8_known_L4
    rw [zlet_eq, h.1.2.2.2.2.2.2.1, if_pos (nI_le (by omega) (by omega)), List.drop_of_length_le (by omega)]
    rfl
  | d + 1, k, n + 1, hd, hn => by
    have h60 := hk.2.1
    have h20 := hk.2.2.1.2.2.2.2.2.2.1
    have hki : k < A.2.1.2.2.2.2.1.length := by omega
    have hw := List.getElem?_eq_getElem hki
    have h806 := (h.1.2.2.2.2.2.2.2 k _ hw).1
    have hw6 := (hk.2.2.1.2.2.2.2.2.2.2.1 _ (List.getElem_mem hki)).2.1
    have hnx := zm_kn4 h hk d (k + 1) n (by omega) (by omega)
    have hnd : ∀ y : Int32, y = 1 → zf_X8_known_L4 10000 m n (nI k) y = some (nI k) := by
      intro y hy
      cases n with
      | zero => exact absurd hn (by omega)
      | succ n =>
        unfold zf_X8_known_L4
        rw [zlet_eq, h.1.2.2.2.2.2.2.1, if_neg (nI_ge hki (by omega)), if_neg (by rw [hy]; exact z10)]
    have hb0 : zf_X8_known_b96 10000 m (zf_X8_known_L4 10000 m n) (nI k) 0 = some (nI (zfi (A.1.map zcode) (A.2.1.2.2.2.2.1.drop (k + 1)) (k + 1))) := by
      unfold zf_X8_known_b96 zf_X8_known_b106
      rw [if_pos rfl, zlet_eq, nI_1]
      exact hnx
    unfold zf_X8_known_L4
    rw [zlet_eq, h.1.2.2.2.2.2.2.1, if_neg (nI_ge hki (by omega)), if_pos rfl, zlet_eq, show (806 : Int32) + nI k = nI (806 + k) from nI_add 806 _, if_neg (nI_in (by omega) (by omega)), zlet_eq, nI_clamp (by omega), h806, h.2.2.2.1, List.drop_eq_getElem_cons hki]
    unfold zfi zf_X8_known_b42
    by_cases hl : A.2.1.2.2.2.2.1[k].length = A.1.length
    · rw [if_pos (by rw [hl])]
      have := zm_kn45 h hk (zf_X8_known_L4 10000 m n) hw hl A.1.length 0 10000 (by omega) (by omega)
      rw [nI_0, List.drop_zero, List.drop_zero] at this
      rw [this]
      by_cases e : A.2.1.2.2.2.2.1[k] = A.1.map zcode
      · rw [if_pos e, if_pos e]
        unfold zf_X8_known_b96 zf_X8_known_b106
        rw [if_neg z10, zlet_eq, Int32.add_zero]
        exact hnd 1 rfl
      · rw [if_neg e, if_neg e]
        exact hb0
    · rw [if_neg (fun e => hl ((nI_eq (by omega) (by omega)).mp e)), if_neg (fun e => hl (by rw [e, List.length_map]))]
      exact (zm_kn450 (zf_X8_known_L4 10000 m n) (nI k) 0 9999).trans hb0
theorem zm_kn {m : zModel} {A : zAb} (h : zmR m A) (hk : zok A) : zf_X8_known 10000 m = some (nI (zfi (A.1.map zcode) A.2.1.2.2.2.2.1 0)) := by
  have h20 := hk.2.2.1.2.2.2.2.2.2.1
  unfold zf_X8_known
  have := zm_kn4 h hk A.2.1.2.2.2.2.1.length 0 10000 (by omega) (by omega)
  rw [nI_0, List.drop_zero] at this
  exact this
end ZMLN
