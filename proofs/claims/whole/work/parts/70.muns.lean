/-! ===== the pure part: the model's unshiftOnSpace, words, savedStates, undo ===== -/
section ZMU
theorem zm_sav {m : zModel} {A : zAb} (h : zmR m A) (hk : zok A) : ∃ k : zModel, zf_X8_saves 10000 m = some k ∧ zmR k (A.1, A.2.1, zHs A.2.2 A.2.1) ∧ k.1 = m.1 ∧ k.2.2.2 = m.2.2.2 := by
  obtain ⟨w', g1, g2⟩ := zm_saves h hk
  exact ⟨_, g1, ⟨h.1, rfl, g2, h.2.2.2.1, h.2.2.2.2⟩, rfl, rfl⟩
theorem zm_unsb {k v0 : zModel} {u : Int32} (hu : zbit u) {z : Int32} (hz : zbit z) : zf_X8_unshiftOnSpace_b26 10000 v0 u z k.1 k.2.1 k.2.2.1 k.2.2.2.1 k.2.2.2.2.1 k.2.2.2.2.2.1 k.2.2.2.2.2.2.1 k.2.2.2.2.2.2.2.1 k.2.2.2.2.2.2.2.2.1 k.2.2.2.2.2.2.2.2.2.1 k.2.2.2.2.2.2.2.2.2.2.1 k.2.2.2.2.2.2.2.2.2.2.2.1 k.2.2.2.2.2.2.2.2.2.2.2.2.1 k.2.2.2.2.2.2.2.2.2.2.2.2.2.1 k.2.2.2.2.2.2.2.2.2.2.2.2.2.2.1 k.2.2.2.2.2.2.2.2.2.2.2.2.2.2.2.1 k.2.2.2.2.2.2.2.2.2.2.2.2.2.2.2.2 = some (z, (upd k.1 604 u, k.2)) := by
  unfold zf_X8_unshiftOnSpace_b26 zf_X8_unshiftOnSpace_b43
  have n604 : (604 : Int32).toNatClampNeg = 604 := by decide
  have i604 : ¬ ((604 : Int32) < 0 ∨ 946 ≤ (604 : Int32).toNatClampNeg) := by decide
  have hz : z = 0 ∨ z = 1 := hz
  rcases hu with rfl | rfl
  · rw [if_pos rfl, if_neg i604, zlet_eq, if_pos hz, n604]
  · rw [if_neg z10, if_neg i604, zlet_eq, if_pos hz, n604]
theorem mk_uns {m : zModel} {A : zAb} (h : zmR m A) (hk : zok A) {u : Int32} (hu : zbit u) : ∃ m', zf_X8_unshiftOnSpace 10000 m u = some ((aUns A u).1, m') ∧ zmR m' (aUns A u).2 := by
  have o3 := hk.2.2.1
  obtain ⟨k, g1, g2, g3, g4⟩ := zm_sav (m := zthr m 0) h hk
  have e604 : k.1 604 = A.2.1.2.2.2.2.2.2 := g2.1.2.2.2.2.1
  unfold zf_X8_unshiftOnSpace
  rw [show zf_X8_saves 10000 (m.1, m.2.1, m.2.2.1, m.2.2.2.1, m.2.2.2.2.1, 0, m.2.2.2.2.2.2) = some k from g1, Option.bind_some, zlet_eq, e604]
  have hR : zmR (upd k.1 604 u, k.2) (aUns A u).2 := ⟨zTx_5 g2.1 o3.sz u, g2.2⟩
  rcases o3.un with q | q
  · rw [if_neg (show ¬ A.2.1.2.2.2.2.2.2 = 1 by rw [q]; decide), zm_unsb hu (Or.inl rfl)]
    exact ⟨_, by rw [show (aUns A u).1 = 0 from q], hR⟩
  · rw [if_pos q, zm_unsb hu (Or.inr rfl)]
    exact ⟨_, by rw [show (aUns A u).1 = 1 from q], hR⟩
theorem mq_words {m : zModel} {A : zAb} (h : zmR m A) : ∃ m', zf_X8_words 10000 m = some (nI A.2.1.2.2.2.2.1.length, m') ∧ zmR m' A := by
  unfold zf_X8_words
  rw [zlet_eq, h.1.2.2.2.2.2.2.1]
  exact ⟨_, rfl, h⟩
theorem mq_saved {m : zModel} {A : zAb} (h : zmR m A) : ∃ m', zf_X8_savedStates 10000 m = some (nI A.2.2.length, m') ∧ zmR m' A := by
  unfold zf_X8_savedStates
  rw [h.2.1]
  exact ⟨_, rfl, h.1, rfl, h.2.2⟩
/-- the copy back -/
theorem zm_unL {v0 : zModel} {c : Nat} (hc : c < 6) : ∀ (d i n : Nat) (m : zModel), i + d = 946 → d < n → m.2.2.1 = nI c →
    ∃ s', zf_X8_undo_L33 10000 v0 n (nI i) m.1 m.2.1 m.2.2.1 m.2.2.2.1 m.2.2.2.2.1 m.2.2.2.2.2.1 m.2.2.2.2.2.2.1 m.2.2.2.2.2.2.2.1 m.2.2.2.2.2.2.2.2.1 m.2.2.2.2.2.2.2.2.2.1 m.2.2.2.2.2.2.2.2.2.2.1 m.2.2.2.2.2.2.2.2.2.2.2.1 m.2.2.2.2.2.2.2.2.2.2.2.2.1 m.2.2.2.2.2.2.2.2.2.2.2.2.2.1 m.2.2.2.2.2.2.2.2.2.2.2.2.2.2.1 m.2.2.2.2.2.2.2.2.2.2.2.2.2.2.2.1 m.2.2.2.2.2.2.2.2.2.2.2.2.2.2.2.2 = some (nI c, (s', m.2.1, nI c, m.2.2.2)) ∧ (∀ k : Nat, i ≤ k → k < 946 → s' k = m.2.1 (946 * c + k)) ∧ ∀ q : Nat, q < i → s' q = m.1 q
  | d, i, 0, m, _, hn, hm => absurd hn (Nat.not_lt_zero _)
  | 0, i, n + 1, m, hd, hn, hm => by
    unfold zf_X8_undo_L33
    rw [if_pos (show (946 : Int32) ≤ nI i from nI_le (a := 946) (by omega) (by omega)), hm]
    exact ⟨m.1, rfl, fun k h1 h2 => absurd h2 (by omega), fun q _ => rfl⟩
  | d + 1, i, n + 1, m, hd, hn, hm => by
    unfold zf_X8_undo_L33
    have e1 : (946 : Int32) * nI c + nI i = nI (946 * c + i) := by
      rw [show (946 : Int32) = nI 946 from by decide, nI_mul, nI_add]
    rw [if_neg (show ¬ (946 : Int32) ≤ nI i from nI_ge (b := 946) (by omega) (by omega)), hm, zlet_eq, e1, if_neg (nI_in (by omega) (by omega)), zlet_eq, if_neg (nI_in (by omega) (by omega)), zlet_eq, zlet_eq, nI_1, nI_clamp (by omega), nI_clamp (by omega)]
    obtain ⟨s', g1, g2, g3⟩ := zm_unL (v0 := v0) hc d (i + 1) n (upd m.1 i (m.2.1 (946 * c + i)), m.2.1, nI c, m.2.2.2) (by omega) (by omega) rfl
    refine ⟨s', g1, fun k h1 h2 => ?_, fun q hq => ?_⟩
    · by_cases hk : k = i
      · subst hk
        rw [g3 _ (by omega)]
        exact zud_eq _ _ _
      · exact g2 k (by omega) h2
    · rw [g3 q (by omega)]
      exact zud_ne (by omega)
theorem zm_und {m : zModel} (z : Int32) : zf_X8_undo_b13 10000 m z m.1 m.2.1 m.2.2.1 m.2.2.2.1 m.2.2.2.2.1 m.2.2.2.2.2.1 m.2.2.2.2.2.2.1 m.2.2.2.2.2.2.2.1 m.2.2.2.2.2.2.2.2.1 m.2.2.2.2.2.2.2.2.2.1 m.2.2.2.2.2.2.2.2.2.2.1 m.2.2.2.2.2.2.2.2.2.2.2.1 m.2.2.2.2.2.2.2.2.2.2.2.2.1 m.2.2.2.2.2.2.2.2.2.2.2.2.2.1 m.2.2.2.2.2.2.2.2.2.2.2.2.2.2.1 m.2.2.2.2.2.2.2.2.2.2.2.2.2.2.2.1 m.2.2.2.2.2.2.2.2.2.2.2.2.2.2.2.2 = (zf_X8_refused 10000 m z).bind fun b2 => if b2.1 = 0 then (zlet (b2.2.2.2.1 - (1 : Int32)) fun x4 => zf_X8_undo_L33 10000 m 10000 0 b2.2.1 b2.2.2.1 x4 b2.2.2.2.2.1 b2.2.2.2.2.2.1 b2.2.2.2.2.2.2.1 b2.2.2.2.2.2.2.2.1 b2.2.2.2.2.2.2.2.2.1 b2.2.2.2.2.2.2.2.2.2.1 b2.2.2.2.2.2.2.2.2.2.2.1 b2.2.2.2.2.2.2.2.2.2.2.2.1 b2.2.2.2.2.2.2.2.2.2.2.2.2.1 b2.2.2.2.2.2.2.2.2.2.2.2.2.2.1 b2.2.2.2.2.2.2.2.2.2.2.2.2.2.2.1 b2.2.2.2.2.2.2.2.2.2.2.2.2.2.2.2.1 b2.2.2.2.2.2.2.2.2.2.2.2.2.2.2.2.2.1 b2.2.2.2.2.2.2.2.2.2.2.2.2.2.2.2.2.2) else some (0, b2.2) := rfl
theorem mk_und {m : zModel} {A : zAb} (h : zmR m A) (hk : zok A) : ∃ m', zf_X8_undo 10000 m = some ((aUnd A).2.1, m') ∧ zf_X8_thrown 10000 m' = some (aUnd A).1 ∧ zmR m' (aUnd A).2.2 := by
  have h6 := hk.2.2.2.1
  have hns : m.2.2.1 = nI A.2.2.length := h.2.1
  unfold zf_X8_undo
  rw [zm_und, zm_und]
  rcases zlast (H := A.2.2) with hn | ⟨H0, S, hn⟩
  · rw [aUnd_n hn, if_pos (show m.2.2.1 = 0 by rw [hns, hn]; exact nI_0), zm_yes (by decide), Option.bind_some, if_neg z10]
    exact ⟨_, rfl, rfl, h⟩
  · have hl : A.2.2.length = H0.length + 1 := by rw [hn, List.length_append]; rfl
    have hS : A.2.2[H0.length]? = some S := by rw [hn]; simp
    have hSk : zokS S := hk.2.2.2.2.1 S (List.mem_of_getElem? hS)
    rw [aUnd_s hn, if_neg (show ¬ m.2.2.1 = 0 by rw [hns]; exact nI_ne0 (by omega) (by omega)), zm_no, Option.bind_some, if_pos rfl, zlet_eq, show (zthr m 0).2.2.1 - 1 = nI H0.length from by rw [show (zthr m 0).2.2.1 = nI A.2.2.length from hns, hl, nI_pred]]
    obtain ⟨s', g1, g2, g3⟩ := zm_unL (v0 := m) (c := H0.length) (by omega) 946 0 10000 (m.1, m.2.1, nI H0.length, (zthr m 0).2.2.2) (by omega) (by omega) rfl
    rw [nI_0] at g1
    refine ⟨_, g1, rfl, zMS_congr (h.2.2.1 _ S hS) hSk (fun k hk => g2 k (Nat.zero_le _) hk), rfl, fun i T hT => h.2.2.1 i T ?_, h.2.2.2.1, h.2.2.2.2⟩
    have hi := (List.getElem?_eq_some_iff.mp hT).1
    rw [hn, List.getElem?_append_left hi]
    exact hT
end ZMU
