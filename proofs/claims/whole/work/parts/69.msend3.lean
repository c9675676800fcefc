/-! ===== the pure part: the model sends, the call ===== -/
section ZSF
theorem zCh_sz {S : zNow} (h : zsz S) (h1 : S.1.length < 200) (c : Int32) : zsz (zCh S c) := by
  obtain ⟨q1, q2⟩ := ztx_len S.2.2.2.1 (S.1, S.2.1) (zcode c) h.2.1
  have q2 : (ztx S.2.2.2.1 (S.1, S.2.1) (zcode c)).1.length = S.1.length + 1 := q2
  refine ⟨?_, q1, ?_, h.2.2.2.1, h.2.2.2.2.1, h.2.2.2.2.2.1, h.2.2.2.2.2.2⟩
  · show (ztx S.2.2.2.1 (S.1, S.2.1) (zcode c)).1.length ≤ 200
    omega
  · show (S.2.2.1 ++ zwr1 c).length ≤ (ztx S.2.2.2.1 (S.1, S.2.1) (zcode c)).1.length
    have := h.2.2.1
    have hw : (zwr1 c).length ≤ 1 := by unfold zwr1; split <;> simp
    rw [List.length_append]
    omega
theorem zm_sdL {v0 : zModel} {buf : List Int32} (hb : buf.length ≤ 60) (hc : ∀ c ∈ buf, ¬ zcode c = -1) (y1 : Int32) : ∀ (d i n : Nat) (m : zModel) (S : zNow), i + d = buf.length → d < n → zMS m.1 S → zsz S → zbit S.2.2.2.2.2.2 → m.2.2.2.2.1 = nI buf.length → (∀ j : Nat, j < buf.length → buf[j]? = some (m.2.2.2.1 j)) → S.1.length + (zenc S.2.2.2.2.2.2 S.2.2.2.2.2.1 (buf.drop i)).length ≤ 200 →
    ∃ s', zf_X8_send_L53 10000 v0 n y1 (nI i) m.1 m.2.1 m.2.2.1 m.2.2.2.1 m.2.2.2.2.1 m.2.2.2.2.2.1 m.2.2.2.2.2.2.1 m.2.2.2.2.2.2.2.1 m.2.2.2.2.2.2.2.2.1 m.2.2.2.2.2.2.2.2.2.1 m.2.2.2.2.2.2.2.2.2.2.1 m.2.2.2.2.2.2.2.2.2.2.2.1 m.2.2.2.2.2.2.2.2.2.2.2.2.1 m.2.2.2.2.2.2.2.2.2.2.2.2.2.1 m.2.2.2.2.2.2.2.2.2.2.2.2.2.2.1 m.2.2.2.2.2.2.2.2.2.2.2.2.2.2.2.1 m.2.2.2.2.2.2.2.2.2.2.2.2.2.2.2.2 = some (nI (zBf S (buf.drop i)).2.1.length - y1, (s', m.2.1, m.2.2.1, m.2.2.2.1, 0, m.2.2.2.2.2)) ∧ zMS s' (zBf S (buf.drop i))
  | d, i, 0, m, S, hd, hn, h, hz, hu, hnb, hbf, hl => absurd hn (Nat.not_lt_zero _)
  | 0, i, n + 1, m, S, hd, hn, h, hz, hu, hnb, hbf, hl => by
    have e201 : m.1 201 = nI S.2.1.length := h.2.1.1
    unfold zf_X8_send_L53
    rw [hnb, if_pos (nI_le (by omega) (by omega)), zlet_eq, zlet_eq, e201, List.drop_of_length_le (by omega)]
    have e : zBf S [] = S := by
      unfold zBf
      rw [show zenc S.2.2.2.2.2.2 S.2.2.2.2.2.1 [] = [] from by unfold zenc; rfl, show zwri [] = [] from rfl, List.append_nil]
      rfl
    rw [e]
    exact ⟨_, rfl, h⟩
  | d + 1, i, n + 1, m, S, hd, hn, h, hz, hu, hnb, hbf, hl => by
    have hi : i < buf.length := by omega
    have hx : m.2.2.2.1 i = buf[i] := by
      have := hbf i hi
      rw [List.getElem?_eq_getElem hi] at this
      exact (Option.some.inj this).symm
    have hci := hc _ (List.getElem_mem hi)
    have e603 : m.1 603 = S.2.2.2.2.2.1 := h.2.2.2.1
    rw [List.drop_eq_getElem_cons hi] at hl ⊢
    unfold zf_X8_send_L53
    rw [hnb, if_neg (nI_ge hi (by omega)), if_neg (nI_in (by omega) (by omega)), zlet_eq, nI_clamp (by omega), hx, zsft_m, Option.bind_some, zlet_eq, e603, ← hnb]
    have same : (zsft buf[i] = -1 ∨ zsft buf[i] = S.2.2.2.2.2.1) → ∃ s', zf_X8_send_b120 10000 v0 (zf_X8_send_L53 10000 v0 n) y1 (nI i) buf[i] m.1 m.2.1 m.2.2.1 m.2.2.2.1 m.2.2.2.2.1 m.2.2.2.2.2.1 m.2.2.2.2.2.2.1 m.2.2.2.2.2.2.2.1 m.2.2.2.2.2.2.2.2.1 m.2.2.2.2.2.2.2.2.2.1 m.2.2.2.2.2.2.2.2.2.2.1 m.2.2.2.2.2.2.2.2.2.2.2.1 m.2.2.2.2.2.2.2.2.2.2.2.2.1 m.2.2.2.2.2.2.2.2.2.2.2.2.2.1 m.2.2.2.2.2.2.2.2.2.2.2.2.2.2.1 m.2.2.2.2.2.2.2.2.2.2.2.2.2.2.2.1 m.2.2.2.2.2.2.2.2.2.2.2.2.2.2.2.2 = some (nI (zBf S (buf[i] :: buf.drop (i + 1))).2.1.length - y1, (s', m.2.1, m.2.2.1, m.2.2.2.1, 0, m.2.2.2.2.2)) ∧ zMS s' (zBf S (buf[i] :: buf.drop (i + 1))) := by
      intro hs
      rw [show zenc S.2.2.2.2.2.2 S.2.2.2.2.2.1 (buf[i] :: buf.drop (i + 1)) = zcode buf[i] :: zenc S.2.2.2.2.2.2 (zbeh (zcode buf[i]) S.2.2.2.2.2.1 S.2.2.2.2.2.2) (buf.drop (i + 1)) from by rw [zenc, if_pos hs], List.length_cons] at hl
      obtain ⟨s1, e1, g1⟩ := zm_b120 h hz (by omega) hu v0 (zf_X8_send_L53 10000 v0 n) y1 (nI i) hci
      rw [e1, nI_1, zBf_s hs]
      exact zm_sdL hb hc y1 d (i + 1) n (s1, m.2) (zCh S buf[i]) (by omega) (by omega) g1 (zCh_sz hz (by omega) _) hu hnb hbf (by
        show (S.1 ++ [zcode buf[i]]).length + (zenc S.2.2.2.2.2.2 (zbeh (zcode buf[i]) S.2.2.2.2.2.1 S.2.2.2.2.2.2) (buf.drop (i + 1))).length ≤ 200
        rw [List.length_append, List.length_singleton]
        omega)
    have diff : ∀ z : Int32, ¬ (zsft buf[i] = -1 ∨ zsft buf[i] = S.2.2.2.2.2.1) → z = (if zsft buf[i] = 1 then 30 else 31) → ∃ s', zf_X8_send_b107 10000 v0 (zf_X8_send_L53 10000 v0 n) y1 (nI i) buf[i] (zsft buf[i]) z m.1 m.2.1 m.2.2.1 m.2.2.2.1 m.2.2.2.2.1 m.2.2.2.2.2.1 m.2.2.2.2.2.2.1 m.2.2.2.2.2.2.2.1 m.2.2.2.2.2.2.2.2.1 m.2.2.2.2.2.2.2.2.2.1 m.2.2.2.2.2.2.2.2.2.2.1 m.2.2.2.2.2.2.2.2.2.2.2.1 m.2.2.2.2.2.2.2.2.2.2.2.2.1 m.2.2.2.2.2.2.2.2.2.2.2.2.2.1 m.2.2.2.2.2.2.2.2.2.2.2.2.2.2.1 m.2.2.2.2.2.2.2.2.2.2.2.2.2.2.2.1 m.2.2.2.2.2.2.2.2.2.2.2.2.2.2.2.2 = some (nI (zBf S (buf[i] :: buf.drop (i + 1))).2.1.length - y1, (s', m.2.1, m.2.2.1, m.2.2.2.1, 0, m.2.2.2.2.2)) ∧ zMS s' (zBf S (buf[i] :: buf.drop (i + 1))) := by
      intro z hs hzz
      rw [show zenc S.2.2.2.2.2.2 S.2.2.2.2.2.1 (buf[i] :: buf.drop (i + 1)) = z :: zcode buf[i] :: zenc S.2.2.2.2.2.2 (zbeh (zcode buf[i]) (zsft buf[i]) S.2.2.2.2.2.2) (buf.drop (i + 1)) from by rw [zenc, if_neg hs, hzz], List.length_cons, List.length_cons] at hl
      obtain ⟨s1, e1, g1⟩ := zm_b107 h hz (by omega) hu v0 (zf_X8_send_L53 10000 v0 n) y1 (nI i) (zsft buf[i]) z hci
      rw [e1, nI_1, zBf_d hs hzz]
      have hq : (S.1 ++ [z]).length = S.1.length + 1 := by rw [List.length_append, List.length_singleton]
      have gz : zsz ((zTx S z).1, (zTx S z).2.1, S.2.2.1, S.2.2.2.1, S.2.2.2.2.1, zsft buf[i], S.2.2.2.2.2.2) := zTx_sz hz (by omega) z
      exact zm_sdL hb hc y1 d (i + 1) n (s1, m.2) (zCh ((zTx S z).1, (zTx S z).2.1, S.2.2.1, S.2.2.2.1, S.2.2.2.2.1, zsft buf[i], S.2.2.2.2.2.2) buf[i]) (by omega) (by omega) g1 (zCh_sz gz (by show (S.1 ++ [z]).length < 200; omega) _) hu hnb hbf (by
        show (S.1 ++ [z] ++ [zcode buf[i]]).length + (zenc S.2.2.2.2.2.2 (zbeh (zcode buf[i]) (zsft buf[i]) S.2.2.2.2.2.2) (buf.drop (i + 1))).length ≤ 200
        rw [List.length_append, hq, List.length_singleton]
        omega)
    by_cases c1 : zsft buf[i] = -1
    · rw [if_pos c1]
      exact same (Or.inl c1)
    rw [if_neg c1]
    by_cases c2 : zsft buf[i] = S.2.2.2.2.2.1
    · rw [if_pos c2]
      exact same (Or.inr c2)
    rw [if_neg c2]
    have hs : ¬ (zsft buf[i] = -1 ∨ zsft buf[i] = S.2.2.2.2.2.1) := fun h => h.elim c1 c2
    by_cases c3 : zsft buf[i] = 1
    · rw [if_pos c3]
      exact diff 30 hs (by rw [if_pos c3])
    · rw [if_neg c3]
      exact diff 31 hs (by rw [if_neg c3])
theorem zm_sdb {m : zModel} (z : Int32) : zf_X8_send_b30 10000 m z m.1 m.2.1 m.2.2.1 m.2.2.2.1 m.2.2.2.2.1 m.2.2.2.2.2.1 m.2.2.2.2.2.2.1 m.2.2.2.2.2.2.2.1 m.2.2.2.2.2.2.2.2.1 m.2.2.2.2.2.2.2.2.2.1 m.2.2.2.2.2.2.2.2.2.2.1 m.2.2.2.2.2.2.2.2.2.2.2.1 m.2.2.2.2.2.2.2.2.2.2.2.2.1 m.2.2.2.2.2.2.2.2.2.2.2.2.2.1 m.2.2.2.2.2.2.2.2.2.2.2.2.2.2.1 m.2.2.2.2.2.2.2.2.2.2.2.2.2.2.2.1 m.2.2.2.2.2.2.2.2.2.2.2.2.2.2.2.2 = (zf_X8_refused 10000 m z).bind fun b5 => if b5.1 = 0 then ((zf_X8_saves 10000 b5.2).bind fun b7 => zlet (b7.1 201) fun x8 => zf_X8_send_L53 10000 m 10000 x8 0 b7.1 b7.2.1 b7.2.2.1 b7.2.2.2.1 b7.2.2.2.2.1 b7.2.2.2.2.2.1 b7.2.2.2.2.2.2.1 b7.2.2.2.2.2.2.2.1 b7.2.2.2.2.2.2.2.2.1 b7.2.2.2.2.2.2.2.2.2.1 b7.2.2.2.2.2.2.2.2.2.2.1 b7.2.2.2.2.2.2.2.2.2.2.2.1 b7.2.2.2.2.2.2.2.2.2.2.2.2.1 b7.2.2.2.2.2.2.2.2.2.2.2.2.2.1 b7.2.2.2.2.2.2.2.2.2.2.2.2.2.2.1 b7.2.2.2.2.2.2.2.2.2.2.2.2.2.2.2.1 b7.2.2.2.2.2.2.2.2.2.2.2.2.2.2.2.2) else some (0, b5.2) := rfl
theorem mk_snd {m : zModel} {A : zAb} (h : zmR m A) (hk : zok A) : ∃ m', zf_X8_send 10000 m = some ((aSnd A).2.1, m') ∧ zf_X8_thrown 10000 m' = some (aSnd A).1 ∧ zmR m' (aSnd A).2.2 := by
  have o3 := hk.2.2.1
  have h60 := hk.2.1
  have h200s : A.2.1.1.length ≤ 200 := o3.1
  have hnl : (aNeed A).length ≤ 2 * A.1.length := zenc_len _ _ _
  have hno : zf_X8_send_b25 10000 m m.1 m.2.1 m.2.2.1 m.2.2.2.1 m.2.2.2.2.1 m.2.2.2.2.2.1 m.2.2.2.2.2.2.1 m.2.2.2.2.2.2.2.1 m.2.2.2.2.2.2.2.2.1 m.2.2.2.2.2.2.2.2.2.1 m.2.2.2.2.2.2.2.2.2.2.1 m.2.2.2.2.2.2.2.2.2.2.2.1 m.2.2.2.2.2.2.2.2.2.2.2.2.1 m.2.2.2.2.2.2.2.2.2.2.2.2.2.1 m.2.2.2.2.2.2.2.2.2.2.2.2.2.2.1 m.2.2.2.2.2.2.2.2.2.2.2.2.2.2.2.1 m.2.2.2.2.2.2.2.2.2.2.2.2.2.2.2.2 = some (0, zthr m 1) := by
    unfold zf_X8_send_b25
    rw [zm_sdb, zm_yes (by decide), Option.bind_some, if_neg z10]
  unfold zf_X8_send aSnd
  rw [h.2.2.2.1]
  by_cases hb : A.1 = []
  · rw [if_pos (show nI A.1.length = 0 by rw [hb]; exact nI_0), if_pos hb, ← h.2.2.2.1, hno]
    exact ⟨_, rfl, rfl, h⟩
  have hpos : 0 < A.1.length := List.length_pos_iff.mpr hb
  rw [if_neg (nI_ne0 hpos (by omega)), if_neg hb, zlet_eq, h.1.1.1, zm_need h hk, Option.bind_some, nI_add]
  by_cases hle : A.2.1.1.length + (aNeed A).length ≤ 200
  · rw [if_pos (show nI (A.2.1.1.length + (aNeed A).length) ≤ 200 from nI_le (b := 200) hle (by omega)), if_pos hle, ← h.2.2.2.1]
    obtain ⟨w', g1, g2⟩ := zm_saves (m := zthr m 0) h hk
    rw [zm_sdb, zm_no, Option.bind_some, if_pos rfl, g1, Option.bind_some, zlet_eq]
    obtain ⟨s', e, g⟩ := zm_sdL (v0 := m) h60 hk.1 (m.1 201) A.1.length 0 10000 (m.1, w', nI (zHs A.2.2 A.2.1).length, (zthr m 0).2.2.2) A.2.1 (by omega) (by omega) h.1 o3.sz o3.un h.2.2.2.1 h.2.2.2.2 hle
    rw [nI_0, List.drop_zero] at e
    rw [List.drop_zero] at g
    refine ⟨(s', w', nI (zHs A.2.2 A.2.1).length, m.2.2.2.1, 0, (zthr m 0).2.2.2.2.2), e.trans ?_, rfl, g, rfl, g2, nI_0.symm, fun i hi => absurd hi (Nat.not_lt_zero _)⟩
    have hp := (ztxs_pre A.2.1.2.2.2.1 (aNeed A) (A.2.1.1, A.2.1.2.1)).2.length_le
    have hp : A.2.1.2.1.length ≤ (ztxs A.2.1.2.2.2.1 (A.2.1.1, A.2.1.2.1) (aNeed A)).2.length := hp
    have hsub := nI_subL A.2.1.2.1.length ((ztxs A.2.1.2.2.2.1 (A.2.1.1, A.2.1.2.1) (aNeed A)).2.length - A.2.1.2.1.length)
    rw [Nat.add_sub_cancel' hp] at hsub
    have hval : nI (zBf A.2.1 A.1).2.1.length - m.1 201 = nI ((ztxs A.2.1.2.2.2.1 (A.2.1.1, A.2.1.2.1) (aNeed A)).2.length - A.2.1.2.1.length) := by
      rw [h.1.2.1.1]
      exact hsub
    exact congrArg (fun z => some (z, ((s', w', nI (zHs A.2.2 A.2.1).length, m.2.2.2.1, 0, (zthr m 0).2.2.2.2.2) : zModel))) hval
  · rw [if_neg (show ¬ nI (A.2.1.1.length + (aNeed A).length) ≤ 200 from nI_ge (a := 200) (by omega) (by omega)), if_neg hle, ← h.2.2.2.1, hno]
    exact ⟨_, rfl, rfl, h⟩
end ZSF
