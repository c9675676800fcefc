/-! ===== the pure part: the model counts kinds and words ===== -/
section ZMB
theorem zkd_v0 : ∀ p q : Bool, (∃ k : Nat, k < 6 ∧ (if p = true then (0 : Int32) else if q = true then 1 + 2 else 0 + 4) = nI k) ∧ (∃ k : Nat, k < 6 ∧ (if p = true then (1 : Int32) else if q = true then 0 + 2 else 1 + 4) = nI k)
  | true, true => ⟨⟨0, by omega, by decide⟩, ⟨1, by omega, by decide⟩⟩
  | true, false => ⟨⟨0, by omega, by decide⟩, ⟨1, by omega, by decide⟩⟩
  | false, true => ⟨⟨3, by omega, by decide⟩, ⟨2, by omega, by decide⟩⟩
  | false, false => ⟨⟨4, by omega, by decide⟩, ⟨5, by omega, by decide⟩⟩
theorem zkd_val (ws seg : List Int32) {s : Int32} (hs : zbit s) : ∃ k : Nat, k < 6 ∧ zkd ws seg s = nI k := by
  unfold zkd
  rcases hs with rfl | rfl
  · simp only [↓reduceIte]
    exact (zkd_v0 _ _).1
  · simp only [if_neg z10]
    exact (zkd_v0 _ _).2
theorem zmQ_kd {W : List (List Int32)} {l : List Int32} {m : zModel} {P : zPr} (h : zmQ W l m P) : ∀ x ∈ P.2.2.1, ∃ k : Nat, k < 6 ∧ x = nI k := by
  intro x hx
  obtain ⟨i, hi, rfl⟩ := List.getElem_of_mem hx
  obtain ⟨a, d, s, -, -, -, -, -, hs, hkd, -⟩ := h.2.2.2.2.2.2.2.2 i hi
  rw [List.getElem?_eq_getElem hi] at hkd
  rw [Option.some.inj hkd]
  exact zkd_val _ _ hs
theorem zm_wbL {m : zModel} {K : List Int32} (hK : zfl m.2.2.2.2.2.2.2.2.2.2.1 m.2.2.2.2.2.2.2.2.2.2.2.1 K) (h200 : K.length ≤ 201) {b p q : Int32} (hb : ∀ x ∈ K, (x &&& b = 0 ↔ ¬ (x = p ∨ x = q))) (hpq : ¬ p = q) : ∀ (d i n c : Nat), i + d = K.length → d < n → zf_X8_withBit_L4 10000 m n b (nI c) (nI i) = some (nI (c + ((K.drop i).count p + (K.drop i).count q)))
  | d, i, 0, c, _, hn => absurd hn (Nat.not_lt_zero _)
  | 0, i, n + 1, c, hd, hn => by
    unfold zf_X8_withBit_L4
    rw [hK.1, if_pos (nI_le (by omega) (by omega)), List.drop_of_length_le (by omega)]
    rfl
  | d + 1, i, n + 1, c, hd, hn => by
    have hi : i < K.length := by omega
    have hx : m.2.2.2.2.2.2.2.2.2.2.1 i = K[i] := by
      have := hK.2 i hi
      rw [List.getElem?_eq_getElem hi] at this
      exact (Option.some.inj this).symm
    have hbi := hb _ (List.getElem_mem hi)
    unfold zf_X8_withBit_L4 zf_X8_withBit_b29
    rw [hK.1, if_neg (nI_ge hi (by omega)), if_neg (nI_in (by omega) (by omega)), zlet_eq, nI_clamp (by omega), hx, List.drop_eq_getElem_cons hi, List.count_cons, List.count_cons, zlet_eq, zlet_eq, zlet_eq, zlet_eq, Int32.add_zero, nI_1, nI_1, zm_wbL hK h200 hb hpq d (i + 1) n c (by omega) (by omega), zm_wbL hK h200 hb hpq d (i + 1) n (c + 1) (by omega) (by omega)]
    by_cases e : K[i] &&& b = 0
    · have hne := hbi.mp e
      rw [if_pos e, if_neg (show ¬ (K[i] == p) = true by rw [beq_iff_eq]; exact fun h => hne (Or.inl h)), if_neg (show ¬ (K[i] == q) = true by rw [beq_iff_eq]; exact fun h => hne (Or.inr h))] <;> (first | rfl | (congr 2; omega))
    · rw [if_neg e]
      by_cases e1 : K[i] = p
      · rw [if_pos (show (K[i] == p) = true by rw [beq_iff_eq]; exact e1), if_neg (show ¬ (K[i] == q) = true by rw [beq_iff_eq]; exact fun h => hpq (e1.symm.trans h))] <;> (first | rfl | (congr 2; omega))
      · have e2 : K[i] = q := by
          by_cases e2 : K[i] = q
          · exact e2
          · exact absurd (hbi.mpr (fun h => h.elim e1 e2)) e
        rw [if_neg (show ¬ (K[i] == p) = true by rw [beq_iff_eq]; exact e1), if_pos (show (K[i] == q) = true by rw [beq_iff_eq]; exact e2)] <;> (first | rfl | (congr 2; omega))
theorem zm_wb2 {W : List (List Int32)} {l : List Int32} {m : zModel} {P : zPr} (h : zmQ W l m P) (h200 : P.2.2.1.length ≤ 200) : zf_X8_withBit 10000 m 2 = some (nI (P.2.2.1.count 2 + P.2.2.1.count 3)) := by
  unfold zf_X8_withBit
  have key : ∀ k : Nat, k < 6 → (nI k &&& (2 : Int32) = 0 ↔ ¬ (nI k = 2 ∨ nI k = 3)) := by decide
  have := zm_wbL h.2.2.1 (show P.2.2.1.length ≤ 201 by omega) (b := 2) (p := 2) (q := 3) (fun x hx => by
    obtain ⟨k, hk, rfl⟩ := zmQ_kd h x hx
    exact key k hk) (by decide) P.2.2.1.length 0 10000 0 (by omega) (by omega)
  rw [nI_0, List.drop_zero, Nat.zero_add] at this
  exact this
theorem zm_wb4 {W : List (List Int32)} {l : List Int32} {m : zModel} {P : zPr} (h : zmQ W l m P) (h200 : P.2.2.1.length ≤ 201) : zf_X8_withBit 10000 m 4 = some (nI (P.2.2.1.count 4 + P.2.2.1.count 5)) := by
  unfold zf_X8_withBit
  have key : ∀ k : Nat, k < 6 → (nI k &&& (4 : Int32) = 0 ↔ ¬ (nI k = 4 ∨ nI k = 5)) := by decide
  have := zm_wbL h.2.2.1 h200 (b := 4) (p := 4) (q := 5) (fun x hx => by
    obtain ⟨k, hk, rfl⟩ := zmQ_kd h x hx
    exact key k hk) (by decide) P.2.2.1.length 0 10000 0 (by omega) (by omega)
  rw [nI_0, List.drop_zero, Nat.zero_add] at this
  exact this
theorem mq_guess {m : zModel} {A : zAb} (h : zmR m A) (hk : zok A) : ∃ m', zf_X8_guesses 10000 m = some (nI ((zPn A.2.1).2.2.1.count 2 + (zPn A.2.1).2.2.1.count 3), m') ∧ zmR m' A := by
  obtain ⟨m', e, q, s, f⟩ := zm_dec0 (m := zthr m 0) h hk
  unfold zf_X8_guesses
  rw [show zf_X8_decodes 10000 (m.1, m.2.1, m.2.2.1, m.2.2.2.1, m.2.2.2.2.1, 0, m.2.2.2.2.2.2) (-1) 0 = some m' from e, Option.bind_some, zm_wb2 q (zPn_le hk).2.2.1, Option.bind_some]
  exact ⟨m', rfl, zmR_fr (m := zthr m 0) h f⟩
theorem mq_doubt {m : zModel} {A : zAb} (h : zmR m A) (hk : zok A) : ∃ m', zf_X8_doubtful 10000 m = some (nI ((zPn A.2.1).2.2.1.count 4 + (zPn A.2.1).2.2.1.count 5), m') ∧ zmR m' A := by
  obtain ⟨m', e, q, s, f⟩ := zm_dec0 (m := zthr m 0) h hk
  have h200 := (zPn_le hk).2.2.1
  unfold zf_X8_doubtful
  rw [show zf_X8_decodes 10000 (m.1, m.2.1, m.2.2.1, m.2.2.2.1, m.2.2.2.2.1, 0, m.2.2.2.2.2.2) (-1) 0 = some m' from e, Option.bind_some, zm_wb4 q (by omega), Option.bind_some]
  exact ⟨m', rfl, zmR_fr (m := zthr m 0) h f⟩
theorem mq_plaus {m : zModel} {A : zAb} (h : zmR m A) (hk : zok A) : ∃ m', zf_X8_plausibility 10000 m = some (zpla A.2.1, m') ∧ zmR m' A := by
  obtain ⟨m', e, q, s, f⟩ := zm_dec0 (m := zthr m 0) h hk
  have hl := (zPn_le hk).2.2.1
  have hd : zdbs A.2.1 ≤ (zPn A.2.1).2.2.1.length := zcount2 _ (by decide)
  unfold zf_X8_plausibility zpla
  rw [show zf_X8_decodes 10000 (m.1, m.2.1, m.2.2.1, m.2.2.2.1, m.2.2.2.2.1, 0, m.2.2.2.2.2.2) (-1) 0 = some m' from e, Option.bind_some, q.2.2.1.1]
  by_cases h0 : (zPn A.2.1).2.2.1.length = 0
  · rw [if_pos (by rw [h0]; exact nI_0), if_pos h0]
    exact ⟨m', rfl, zmR_fr (m := zthr m 0) h f⟩
  · have hsub : nI (zPn A.2.1).2.2.1.length - nI (zdbs A.2.1) = nI ((zPn A.2.1).2.2.1.length - zdbs A.2.1) := by
      have := nI_subL (zdbs A.2.1) ((zPn A.2.1).2.2.1.length - zdbs A.2.1)
      rw [Nat.add_sub_cancel' hd] at this
      exact this
    rw [if_neg (nI_ne0 (by omega) (by omega)), if_neg h0, zm_wb4 q (by omega), Option.bind_some, show (zPn A.2.1).2.2.1.count 4 + (zPn A.2.1).2.2.1.count 5 = zdbs A.2.1 from rfl, hsub, zlet_eq]
    refine ⟨m', ?_, zmR_fr (m := zthr m 0) h f⟩
    exact if_pos (zpq_ok (by omega) (by omega) (by omega)).1
/-- a word's place among words that differ -/
theorem zfw_at {l : List Int32} : ∀ (W : List (List Int32)) (i y : Nat), W.Nodup → i + W.length < 2 ^ 31 → i ≤ y → y < i + W.length → (zfw l W i = nI y ↔ W[y - i]? = some l)
  | [], i, y, _, _, h1, h2 => absurd h2 (by simp only [List.length_nil]; omega)
  | w :: W, i, y, hn, hl, h1, h2 => by
    have hl : i + (W.length + 1) < 2 ^ 31 := hl
    have h2 : y < i + (W.length + 1) := h2
    have hn' := List.nodup_cons.mp hn
    unfold zfw
    by_cases e : w = l
    · rw [if_pos e]
      by_cases hy : y = i
      · subst hy
        rw [Nat.sub_self]
        exact ⟨fun _ => by rw [List.getElem?_cons_zero, e], fun _ => rfl⟩
      · obtain ⟨k, hk⟩ : ∃ k, y - i = k + 1 := ⟨y - i - 1, by omega⟩
        rw [hk, List.getElem?_cons_succ]
        refine ⟨fun h => absurd ((nI_eq (by omega) (by omega)).mp h) (fun h => hy h.symm), fun h => ?_⟩
        exact absurd (by rw [e]; exact List.mem_of_getElem? h) hn'.1
    · rw [if_neg e]
      by_cases hy : y = i
      · subst hy
        rw [Nat.sub_self, List.getElem?_cons_zero]
        refine ⟨fun h => ?_, fun h => absurd (Option.some.inj h) e⟩
        exfalso
        have hno := zfw_no (l := l) W (y + 1) (by omega)
        by_cases hm : l ∈ W
        · obtain ⟨j, hj, hjl⟩ := List.getElem_of_mem hm
          have := (zfw_at W (y + 1) (y + 1 + j) hn'.2 (by omega) (by omega) (by omega)).mpr (by rw [Nat.add_sub_cancel_left, List.getElem?_eq_getElem hj, hjl])
          rw [this] at h
          have := (nI_eq (by omega) (by omega)).mp h
          omega
        · rw [hno.mpr hm] at h
          have := nI_pos' (n := y) (by omega)
          rw [← h] at this
          exact absurd this (by decide)
      · obtain ⟨k, hk⟩ : ∃ k, y - i = k + 1 := ⟨y - i - 1, by omega⟩
        rw [hk, List.getElem?_cons_succ, zfw_at W (i + 1) y hn'.2 (by omega) (by omega) (by omega), show y - (i + 1) = k by omega]
theorem znI_n1 {y : Nat} (h : y < 2 ^ 31) : ¬ (-1 : Int32) = nI y := fun e => by
  have := nI_pos' h
  rw [← e] at this
  exact absurd this (by decide)
/-- a run is printed as the word y -/
theorem zkd_use {W : List (List Int32)} (h20 : W.length ≤ 20) (hwd : ∀ w ∈ W, zwd w) (hn : W.Nodup) {seg : List Int32} (hg : ∀ c ∈ seg, zsg c = true ∧ zcd c) (h0 : 0 < seg.length) {s : Int32} (hs : zbit s) {y : Nat} (hy : y < W.length) :
    ((if zkd (W.map zpk) seg s &&& 1 = 0 then zfind (zpk seg) (W.map zpk) 0 else -1) = nI y ↔ zkd (W.map zpk) seg s &&& 5 = 0 ∧ W[y]? = some seg) := by
  have hf : zfind (zpk seg) (W.map zpk) 0 = zfw seg W 0 := zfind_w hg h0 W 0 hwd
  have hat := zfw_at (l := seg) W 0 y hn (by omega) (Nat.zero_le _) (by omega)
  rw [Nat.sub_zero] at hat
  have n1 := znI_n1 (y := y) (by omega)
  by_cases p0 : zpl (W.map zpk) seg 0 = true
  · have hkey : zkd (W.map zpk) seg s &&& 1 = 0 ∧ zkd (W.map zpk) seg s &&& 5 = 0 ∨ ¬ zkd (W.map zpk) seg s &&& 1 = 0 ∧ ¬ zkd (W.map zpk) seg s &&& 5 = 0 := by
      unfold zkd
      rcases hs with rfl | rfl
      · rw [if_pos p0]
        exact Or.inl (by decide)
      · rw [if_neg z10, if_pos p0]
        split
        · exact Or.inr (by decide)
        · exact Or.inl (by decide)
    rcases hkey with ⟨k1, k2⟩ | ⟨k1, k2⟩
    · rw [if_pos k1, hf, hat]
      exact ⟨fun h => ⟨k2, h⟩, fun h => h.2⟩
    · rw [if_neg k1]
      exact ⟨fun h => absurd h n1, fun h => absurd h.1 k2⟩
  · have hnf : zfind (zpk seg) (W.map zpk) 0 = -1 := by
      unfold zpl at p0
      rw [if_pos rfl] at p0
      by_cases e : zfind (zpk seg) (W.map zpk) 0 = -1
      · exact e
      · rw [decide_eq_false e] at p0
        exact absurd rfl p0
    have hns : ¬ W[y]? = some seg := fun h => by
      rw [← hat, ← hf, hnf] at h
      exact n1 h
    rw [hnf]
    have : (if zkd (W.map zpk) seg s &&& 1 = 0 then (-1 : Int32) else -1) = -1 := by split <;> rfl
    rw [this]
    exact ⟨fun h => absurd h n1, fun h => absurd h.2 hns⟩
end ZMB
