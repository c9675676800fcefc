/-! ===== the pure part: the model's state, its saving ===== -/
section ZM
def zml (s : Nat → Int32) (cnt off : Nat) (l : List Int32) : Prop := s cnt = nI l.length ∧ ∀ i : Nat, i < l.length → l[i]? = some (s (off + i))
/-- the model's array holds the line and the words -/
def zMS (s : Nat → Int32) (S : zNow) : Prop := zml s 0 1 S.1 ∧ zml s 201 202 S.2.1 ∧ zml s 402 403 S.2.2.1 ∧ s 603 = S.2.2.2.2.2.1 ∧ s 604 = S.2.2.2.2.2.2 ∧ (∀ i : Nat, i < 200 → s (605 + i) = S.2.2.2.1.getD i 0 + 1) ∧ s 805 = nI S.2.2.2.2.1.length ∧ ∀ (i : Nat) (w : List Int32), S.2.2.2.2.1[i]? = some w → s (806 + i) = nI w.length ∧ ∀ j : Nat, j < w.length → w[j]? = some (s (826 + 6 * i + j))
def zmR (m : zModel) (A : zAb) : Prop := zMS m.1 A.2.1 ∧ m.2.2.1 = nI A.2.2.length ∧ (∀ (i : Nat) (S : zNow), A.2.2[i]? = some S → zMS (fun k => m.2.1 (946 * i + k)) S) ∧ m.2.2.2.2.1 = nI A.1.length ∧ ∀ i : Nat, i < A.1.length → A.1[i]? = some (m.2.2.2.1 i)
theorem zml_congr {s s' : Nat → Int32} {cnt off : Nat} {l : List Int32} (h : zml s cnt off l) (hc : s' cnt = s cnt) (he : ∀ i : Nat, i < l.length → s' (off + i) = s (off + i)) : zml s' cnt off l :=
  ⟨by rw [hc]; exact h.1, fun i hi => by rw [he i hi]; exact h.2 i hi⟩
theorem zMS_congr {s s' : Nat → Int32} {S : zNow} (h : zMS s S) (hk : zokS S) (he : ∀ k : Nat, k < 946 → s' k = s k) : zMS s' S := by
  obtain ⟨h1, h2, h3, h4, h5, h6, h7, h8⟩ := h
  have l1 := hk.1
  have l2 := hk.2.1
  have l3 := hk.2.2.1
  have l4 := hk.2.2.2.2.2.2.1
  refine ⟨zml_congr h1 (he 0 (by omega)) (fun i hi => he _ (by omega)), zml_congr h2 (he 201 (by omega)) (fun i hi => he _ (by omega)), zml_congr h3 (he 402 (by omega)) (fun i hi => he _ (by omega)), by rw [he 603 (by omega)]; exact h4, by rw [he 604 (by omega)]; exact h5, fun i hi => by rw [he _ (by omega)]; exact h6 i hi, by rw [he 805 (by omega)]; exact h7, fun i w hw => ?_⟩
  have hi := (List.getElem?_eq_some_iff.mp hw).1
  have hwd := hk.2.2.2.2.2.2.2.1 w (List.mem_of_getElem? hw)
  have := hwd.2.1
  obtain ⟨g1, g2⟩ := h8 i w hw
  exact ⟨by rw [he _ (by omega)]; exact g1, fun j hj => by rw [he _ (by omega)]; exact g2 j hj⟩
theorem nI_mul (a b : Nat) : nI a * nI b = nI (a * b) := (Int32.ofNat_mul a b).symm
theorem zm_sv {v0 : zModel} {c : Nat} (hc : c < 6) : ∀ (d i n : Nat) (w0 : Nat → Int32), i + d = 946 → d < n →
    ∃ w', zf_X8_saves_L52 10000 v0 n (nI i) w0 (nI c) = some (v0.1, w', nI (c + 1), v0.2.2.2) ∧ (∀ k : Nat, i ≤ k → k < 946 → w' (946 * c + k) = v0.1 k) ∧ ∀ q : Nat, q < 946 * c + i ∨ 946 * c + 946 ≤ q → w' q = w0 q
  | d, i, 0, w0, _, hn => absurd hn (Nat.not_lt_zero _)
  | 0, i, n + 1, w0, hd, hn => by
    unfold zf_X8_saves_L52
    rw [if_pos (show (946 : Int32) ≤ nI i from nI_le (a := 946) (by omega) (by omega)), zlet_eq, nI_1]
    exact ⟨w0, rfl, fun k h1 h2 => absurd h2 (by omega), fun q _ => rfl⟩
  | d + 1, i, n + 1, w0, hd, hn => by
    unfold zf_X8_saves_L52
    have e1 : (946 : Int32) * nI c + nI i = nI (946 * c + i) := by
      rw [show (946 : Int32) = nI 946 from by decide, nI_mul, nI_add]
    rw [if_neg (show ¬ (946 : Int32) ≤ nI i from nI_ge (b := 946) (by omega) (by omega)), if_neg (nI_in (by omega) (by omega)), zlet_eq, e1, if_neg (nI_in (by omega) (by omega)), zlet_eq, zlet_eq, nI_1, nI_clamp (by omega), nI_clamp (by omega)]
    obtain ⟨w', g1, g2, g3⟩ := zm_sv hc d (i + 1) n (upd w0 (946 * c + i) (v0.1 i)) (by omega) (by omega)
    refine ⟨w', g1, fun k h1 h2 => ?_, fun q hq => ?_⟩
    · by_cases hk : k = i
      · subst hk
        rw [g3 _ (Or.inl (by omega))]
        unfold upd
        rw [if_pos rfl]
      · exact g2 k (by omega) h2
    · rw [g3 q (by omega)]
      unfold upd
      rw [if_neg (by omega)]
theorem zm_sh {v0 : zModel} {c : Nat} : ∀ (d i n : Nat) (w0 : Nat → Int32), i + d = 4730 → d < n →
    ∃ w', zf_X8_saves_L11 10000 v0 n (nI i) w0 (nI (c + 1)) = zf_X8_saves_b50 10000 v0 w' (nI c) ∧ (∀ k : Nat, i ≤ k → k < 4730 → w' k = w0 (946 + k)) ∧ ∀ q : Nat, q < i ∨ 4730 ≤ q → w' q = w0 q
  | d, i, 0, w0, _, hn => absurd hn (Nat.not_lt_zero _)
  | 0, i, n + 1, w0, hd, hn => by
    unfold zf_X8_saves_L11
    rw [if_pos (show (4730 : Int32) ≤ nI i from nI_le (a := 4730) (by omega) (by omega)), zlet_eq, nI_pred]
    exact ⟨w0, rfl, fun k h1 h2 => absurd h2 (by omega), fun q _ => rfl⟩
  | d + 1, i, n + 1, w0, hd, hn => by
    unfold zf_X8_saves_L11
    have e1 : (946 : Int32) + nI i = nI (946 + i) := by
      rw [show (946 : Int32) = nI 946 from by decide, nI_add]
    rw [if_neg (show ¬ (4730 : Int32) ≤ nI i from nI_ge (b := 4730) (by omega) (by omega)), zlet_eq, e1, if_neg (nI_in (by omega) (by omega)), zlet_eq, if_neg (nI_in (by omega) (by omega)), zlet_eq, zlet_eq, nI_1, nI_clamp (by omega), nI_clamp (by omega)]
    obtain ⟨w', g1, g2, g3⟩ := zm_sh (v0 := v0) (c := c) d (i + 1) n (upd w0 i (w0 (946 + i))) (by omega) (by omega)
    refine ⟨w', g1, fun k h1 h2 => ?_, fun q hq => ?_⟩
    · by_cases hk : k = i
      · subst hk
        rw [g3 _ (Or.inl (by omega))]
        unfold upd
        rw [if_pos rfl]
      · rw [g2 k (by omega) h2]
        unfold upd
        rw [if_neg (by omega)]
    · rw [g3 q (by omega)]
      unfold upd
      rw [if_neg (by omega)]
end ZM
