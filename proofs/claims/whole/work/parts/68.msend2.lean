/-! ===== the pure part: the model sends, its loop ===== -/
section ZSE
theorem z29 {c : Int32} : zcode c = 29 ↔ c = 64 ∨ c = 35 := by
  have key : (c < 0 ∨ (127 : Int32) < c) → (zcode c = 29 ↔ c = 64 ∨ c = 35) := by
    intro h
    have e : zcode c = -1 := by unfold zcode; rw [(zcode_out h).1]; rfl
    rw [e]
    refine ⟨fun h => absurd h (by decide), fun h2 => ?_⟩
    rcases h2 with rfl | rfl
    · exact absurd h (by decide)
    · exact absurd h (by decide)
  rcases zi_cases c 127 (by omega) with h | h | ⟨k, hk, rfl⟩
  · exact key (Or.inl h)
  · exact key (Or.inr h)
  · have : ∀ k : Nat, k < 128 → (zcode (nI k) = 29 ↔ nI k = 64 ∨ nI k = 35) := by decide +kernel
    exact this k (by omega)
def zwr1 (c : Int32) : List Int32 := if zcode c = 29 then [] else [c]
theorem zm_b165 {m : zModel} {s : Nat → Int32} {S : zNow} (h : zMS s S) (hz : zsz S) (h1 : S.2.2.1.length < 200) (v0 : zModel) (rec53 : Int32 → Int32 → (Nat → Int32) → (Nat → Int32) → Int32 → (Nat → Int32) → Int32 → Int32 → (Nat → Int32) → Int32 → (Nat → Int32) → (Nat → Int32) → (Nat → Int32) → Int32 → Int32 → Int32 → Int32 → (Nat → Int32) → Int32 → Option (Int32 × zModel)) (y1 y2 c a : Int32) :
    ∃ s', zf_X8_send_b165 10000 v0 rec53 y1 y2 c 603 a s m.2.1 m.2.2.1 m.2.2.2.1 m.2.2.2.2.1 m.2.2.2.2.2.1 m.2.2.2.2.2.2.1 m.2.2.2.2.2.2.2.1 m.2.2.2.2.2.2.2.2.1 m.2.2.2.2.2.2.2.2.2.1 m.2.2.2.2.2.2.2.2.2.2.1 m.2.2.2.2.2.2.2.2.2.2.2.1 m.2.2.2.2.2.2.2.2.2.2.2.2.1 m.2.2.2.2.2.2.2.2.2.2.2.2.2.1 m.2.2.2.2.2.2.2.2.2.2.2.2.2.2.1 m.2.2.2.2.2.2.2.2.2.2.2.2.2.2.2.1 m.2.2.2.2.2.2.2.2.2.2.2.2.2.2.2.2 = rec53 y1 (y2 + 1) s' m.2.1 m.2.2.1 m.2.2.2.1 m.2.2.2.2.1 m.2.2.2.2.2.1 m.2.2.2.2.2.2.1 m.2.2.2.2.2.2.2.1 m.2.2.2.2.2.2.2.2.1 m.2.2.2.2.2.2.2.2.2.1 m.2.2.2.2.2.2.2.2.2.2.1 m.2.2.2.2.2.2.2.2.2.2.2.1 m.2.2.2.2.2.2.2.2.2.2.2.2.1 m.2.2.2.2.2.2.2.2.2.2.2.2.2.1 m.2.2.2.2.2.2.2.2.2.2.2.2.2.2.1 m.2.2.2.2.2.2.2.2.2.2.2.2.2.2.2.1 m.2.2.2.2.2.2.2.2.2.2.2.2.2.2.2.2 ∧ zMS s' (S.1, S.2.1, S.2.2.1 ++ zwr1 c, S.2.2.2.1, S.2.2.2.2.1, a, S.2.2.2.2.2.2) := by
  have g := zTx_4 h hz a
  have gz : zsz (S.1, S.2.1, S.2.2.1, S.2.2.2.1, S.2.2.2.2.1, a, S.2.2.2.2.2.2) := hz
  have e402 : upd s 603 a 402 = nI S.2.2.1.length := g.2.2.1.1
  have e403 : (403 : Int32) + nI S.2.2.1.length = nI (403 + S.2.2.1.length) := nI_add 403 _
  unfold zf_X8_send_b165 zf_X8_send_b208 zwr1
  rw [if_neg (show ¬ ((603 : Int32) < 0 ∨ 946 ≤ (603 : Int32).toNatClampNeg) by decide), show (603 : Int32).toNatClampNeg = 603 from by decide, zlet_eq, zlet_eq]
  by_cases c1 : c = 64
  · rw [if_pos c1, if_pos (z29.mpr (Or.inl c1)), List.append_nil]
    exact ⟨_, rfl, g⟩
  rw [if_neg c1]
  by_cases c2 : c = 35
  · rw [if_pos c2, if_pos (z29.mpr (Or.inr c2)), List.append_nil]
    exact ⟨_, rfl, g⟩
  rw [if_neg c2, if_neg (fun h => (z29.mp h).elim c1 c2), zlet_eq, e402, e403, if_neg (nI_in (by omega) (by omega)), nI_clamp (by omega)]
  simp only [zlet_eq]
  rw [zud_ne (show 402 ≠ 403 + S.2.2.1.length by omega), e402, nI_1]
  exact ⟨_, rfl, zTx_3 g gz h1 rfl⟩
def zCh (S : zNow) (c : Int32) : zNow := ((ztx S.2.2.2.1 (S.1, S.2.1) (zcode c)).1, (ztx S.2.2.2.1 (S.1, S.2.1) (zcode c)).2, S.2.2.1 ++ zwr1 c, S.2.2.2.1, S.2.2.2.2.1, zbeh (zcode c) S.2.2.2.2.2.1 S.2.2.2.2.2.2, S.2.2.2.2.2.2)
theorem zm_b120 {m : zModel} {S : zNow} (h : zMS m.1 S) (hz : zsz S) (h0 : S.1.length < 200) (hu : zbit S.2.2.2.2.2.2) (v0 : zModel) (rec53 : Int32 → Int32 → (Nat → Int32) → (Nat → Int32) → Int32 → (Nat → Int32) → Int32 → Int32 → (Nat → Int32) → Int32 → (Nat → Int32) → (Nat → Int32) → (Nat → Int32) → Int32 → Int32 → Int32 → Int32 → (Nat → Int32) → Int32 → Option (Int32 × zModel)) (y1 y2 : Int32) {c : Int32} (hc : ¬ zcode c = -1) :
    ∃ s', zf_X8_send_b120 10000 v0 rec53 y1 y2 c m.1 m.2.1 m.2.2.1 m.2.2.2.1 m.2.2.2.2.1 m.2.2.2.2.2.1 m.2.2.2.2.2.2.1 m.2.2.2.2.2.2.2.1 m.2.2.2.2.2.2.2.2.1 m.2.2.2.2.2.2.2.2.2.1 m.2.2.2.2.2.2.2.2.2.2.1 m.2.2.2.2.2.2.2.2.2.2.2.1 m.2.2.2.2.2.2.2.2.2.2.2.2.1 m.2.2.2.2.2.2.2.2.2.2.2.2.2.1 m.2.2.2.2.2.2.2.2.2.2.2.2.2.2.1 m.2.2.2.2.2.2.2.2.2.2.2.2.2.2.2.1 m.2.2.2.2.2.2.2.2.2.2.2.2.2.2.2.2 = rec53 y1 (y2 + 1) s' m.2.1 m.2.2.1 m.2.2.2.1 m.2.2.2.2.1 m.2.2.2.2.2.1 m.2.2.2.2.2.2.1 m.2.2.2.2.2.2.2.1 m.2.2.2.2.2.2.2.2.1 m.2.2.2.2.2.2.2.2.2.1 m.2.2.2.2.2.2.2.2.2.2.1 m.2.2.2.2.2.2.2.2.2.2.2.1 m.2.2.2.2.2.2.2.2.2.2.2.2.1 m.2.2.2.2.2.2.2.2.2.2.2.2.2.1 m.2.2.2.2.2.2.2.2.2.2.2.2.2.2.1 m.2.2.2.2.2.2.2.2.2.2.2.2.2.2.2.1 m.2.2.2.2.2.2.2.2.2.2.2.2.2.2.2.2 ∧ zMS s' (zCh S c) := by
  have h1 := hz.2.2.1
  obtain ⟨s1, e1, g1⟩ := zm_snd1 (m := m) h hz h0 (zcode c)
  have gz := zTx_sz hz h0 (zcode c)
  have e603 : s1 603 = S.2.2.2.2.2.1 := g1.2.2.2.1
  have e604 : s1 604 = S.2.2.2.2.2.2 := g1.2.2.2.2.1
  unfold zf_X8_send_b120
  rw [zcode_m, if_neg hc, Option.bind_some, show zf_X8_sends 10000 (m.1, m.2.1, m.2.2.1, m.2.2.2.1, m.2.2.2.2.1, m.2.2.2.2.2.1, m.2.2.2.2.2.2.1, m.2.2.2.2.2.2.2.1, m.2.2.2.2.2.2.2.2.1, m.2.2.2.2.2.2.2.2.2.1, m.2.2.2.2.2.2.2.2.2.2.1, m.2.2.2.2.2.2.2.2.2.2.2.1, m.2.2.2.2.2.2.2.2.2.2.2.2.1, m.2.2.2.2.2.2.2.2.2.2.2.2.2.1, m.2.2.2.2.2.2.2.2.2.2.2.2.2.2.1, m.2.2.2.2.2.2.2.2.2.2.2.2.2.2.2.1, m.2.2.2.2.2.2.2.2.2.2.2.2.2.2.2.2) (zcode c) = some (s1, m.2) from e1, Option.bind_some]
  unfold zf_X8_send_b157 zCh
  simp only [zlet_eq, e603, e604]
  rw [zbeh_ch c _ hu]
  by_cases c1 : c = 32
  · rw [if_pos c1]
    by_cases c2 : S.2.2.2.2.2.2 = 1
    · rw [if_pos c2, if_pos ⟨c1, c2⟩]
      exact zm_b165 (m := m) g1 gz (by show S.2.2.1.length < 200; omega) v0 rec53 y1 y2 c 0
    · rw [if_neg c2, if_neg (fun h => c2 h.2)]
      exact zm_b165 (m := m) g1 gz (by show S.2.2.1.length < 200; omega) v0 rec53 y1 y2 c _
  · rw [if_neg c1, if_neg (fun h => c1 h.1)]
    exact zm_b165 (m := m) g1 gz (by show S.2.2.1.length < 200; omega) v0 rec53 y1 y2 c _
theorem zm_b107 {m : zModel} {S : zNow} (h : zMS m.1 S) (hz : zsz S) (h0 : S.1.length + 1 < 200) (hu : zbit S.2.2.2.2.2.2) (v0 : zModel) (rec53 : Int32 → Int32 → (Nat → Int32) → (Nat → Int32) → Int32 → (Nat → Int32) → Int32 → Int32 → (Nat → Int32) → Int32 → (Nat → Int32) → (Nat → Int32) → (Nat → Int32) → Int32 → Int32 → Int32 → Int32 → (Nat → Int32) → Int32 → Option (Int32 × zModel)) (y1 y2 y4 z1 : Int32) {c : Int32} (hc : ¬ zcode c = -1) :
    ∃ s', zf_X8_send_b107 10000 v0 rec53 y1 y2 c y4 z1 m.1 m.2.1 m.2.2.1 m.2.2.2.1 m.2.2.2.2.1 m.2.2.2.2.2.1 m.2.2.2.2.2.2.1 m.2.2.2.2.2.2.2.1 m.2.2.2.2.2.2.2.2.1 m.2.2.2.2.2.2.2.2.2.1 m.2.2.2.2.2.2.2.2.2.2.1 m.2.2.2.2.2.2.2.2.2.2.2.1 m.2.2.2.2.2.2.2.2.2.2.2.2.1 m.2.2.2.2.2.2.2.2.2.2.2.2.2.1 m.2.2.2.2.2.2.2.2.2.2.2.2.2.2.1 m.2.2.2.2.2.2.2.2.2.2.2.2.2.2.2.1 m.2.2.2.2.2.2.2.2.2.2.2.2.2.2.2.2 = rec53 y1 (y2 + 1) s' m.2.1 m.2.2.1 m.2.2.2.1 m.2.2.2.2.1 m.2.2.2.2.2.1 m.2.2.2.2.2.2.1 m.2.2.2.2.2.2.2.1 m.2.2.2.2.2.2.2.2.1 m.2.2.2.2.2.2.2.2.2.1 m.2.2.2.2.2.2.2.2.2.2.1 m.2.2.2.2.2.2.2.2.2.2.2.1 m.2.2.2.2.2.2.2.2.2.2.2.2.1 m.2.2.2.2.2.2.2.2.2.2.2.2.2.1 m.2.2.2.2.2.2.2.2.2.2.2.2.2.2.1 m.2.2.2.2.2.2.2.2.2.2.2.2.2.2.2.1 m.2.2.2.2.2.2.2.2.2.2.2.2.2.2.2.2 ∧ zMS s' (zCh ((zTx S z1).1, (zTx S z1).2.1, S.2.2.1, S.2.2.2.1, S.2.2.2.2.1, y4, S.2.2.2.2.2.2) c) := by
  obtain ⟨s1, e1, g1⟩ := zm_snd1 (m := m) h hz (by omega) z1
  have gz := zTx_sz hz (by omega) z1
  have g2 := zTx_4 g1 gz y4
  unfold zf_X8_send_b107
  rw [show zf_X8_sends 10000 (m.1, m.2.1, m.2.2.1, m.2.2.2.1, m.2.2.2.2.1, m.2.2.2.2.2.1, m.2.2.2.2.2.2.1, m.2.2.2.2.2.2.2.1, m.2.2.2.2.2.2.2.2.1, m.2.2.2.2.2.2.2.2.2.1, m.2.2.2.2.2.2.2.2.2.2.1, m.2.2.2.2.2.2.2.2.2.2.2.1, m.2.2.2.2.2.2.2.2.2.2.2.2.1, m.2.2.2.2.2.2.2.2.2.2.2.2.2.1, m.2.2.2.2.2.2.2.2.2.2.2.2.2.2.1, m.2.2.2.2.2.2.2.2.2.2.2.2.2.2.2.1, m.2.2.2.2.2.2.2.2.2.2.2.2.2.2.2.2) z1 = some (s1, m.2) from e1, Option.bind_some, zlet_eq]
  exact zm_b120 (m := (upd s1 603 y4, m.2)) (S := ((zTx S z1).1, (zTx S z1).2.1, S.2.2.1, S.2.2.2.1, S.2.2.2.2.1, y4, S.2.2.2.2.2.2)) g2 gz (by show (S.1 ++ [z1]).length < 200; rw [List.length_append]; exact h0) hu v0 rec53 y1 y2 hc
/-- the state behind characters of the buffer -/
def zBf (S : zNow) (cs : List Int32) : zNow := ((ztxs S.2.2.2.1 (S.1, S.2.1) (zenc S.2.2.2.2.2.2 S.2.2.2.2.2.1 cs)).1, (ztxs S.2.2.2.1 (S.1, S.2.1) (zenc S.2.2.2.2.2.2 S.2.2.2.2.2.1 cs)).2, S.2.2.1 ++ zwri cs, S.2.2.2.1, S.2.2.2.2.1, zshs S.2.2.2.2.2.2 S.2.2.2.2.2.1 (zenc S.2.2.2.2.2.2 S.2.2.2.2.2.1 cs), S.2.2.2.2.2.2)
theorem zwri_1 (c : Int32) (cs : List Int32) : zwri (c :: cs) = zwr1 c ++ zwri cs := by
  unfold zwri zwr1
  by_cases h : zcode c = 29
  · rw [if_pos h, List.filter_cons_of_neg (by simp [h])]; rfl
  · rw [if_neg h, List.filter_cons_of_pos (by simp [h])]; rfl
theorem zBf_s {S : zNow} {c : Int32} {cs : List Int32} (h : zsft c = -1 ∨ zsft c = S.2.2.2.2.2.1) : zBf S (c :: cs) = zBf (zCh S c) cs := by
  unfold zBf
  rw [show zenc S.2.2.2.2.2.2 S.2.2.2.2.2.1 (c :: cs) = zcode c :: zenc S.2.2.2.2.2.2 (zbeh (zcode c) S.2.2.2.2.2.1 S.2.2.2.2.2.2) cs from by rw [zenc, if_pos h], zwri_1, ← List.append_assoc]
  rfl
theorem zBf_d {S : zNow} {c z : Int32} {cs : List Int32} (h : ¬ (zsft c = -1 ∨ zsft c = S.2.2.2.2.2.1)) (hz : z = if zsft c = 1 then 30 else 31) : zBf S (c :: cs) = zBf (zCh ((zTx S z).1, (zTx S z).2.1, S.2.2.1, S.2.2.2.1, S.2.2.2.2.1, zsft c, S.2.2.2.2.2.2) c) cs := by
  have hb : zbeh z S.2.2.2.2.2.1 S.2.2.2.2.2.2 = zsft c := by
    rw [hz]
    rcases zsft_r c with e | e | e
    · exact absurd (Or.inl e) h
    · rw [e]; rfl
    · rw [e]; rfl
  unfold zBf
  rw [show zenc S.2.2.2.2.2.2 S.2.2.2.2.2.1 (c :: cs) = z :: zcode c :: zenc S.2.2.2.2.2.2 (zbeh (zcode c) (zsft c) S.2.2.2.2.2.2) cs from by rw [zenc, if_neg h, hz], zwri_1, ← List.append_assoc]
  rw [show zshs S.2.2.2.2.2.2 S.2.2.2.2.2.1 (z :: zcode c :: zenc S.2.2.2.2.2.2 (zbeh (zcode c) (zsft c) S.2.2.2.2.2.2) cs) = zshs S.2.2.2.2.2.2 (zbeh (zcode c) (zbeh z S.2.2.2.2.2.1 S.2.2.2.2.2.2) S.2.2.2.2.2.2) (zenc S.2.2.2.2.2.2 (zbeh (zcode c) (zsft c) S.2.2.2.2.2.2) cs) from rfl, hb]
  rfl
end ZSE
