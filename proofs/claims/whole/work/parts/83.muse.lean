/-! ===== the pure part: the model's uses and wrong characters ===== -/
section ZMC
theorem zm_usL {m : zModel} {W : List (List Int32)} (hm : zmw m.1 W) (h20 : W.length ≤ 20) (hwd : ∀ w ∈ W, zwd w) (hn : W.Nodup) {l : List Int32} {P : zPr} (h : zmQ W l m P) (h201 : l.length ≤ 201) (h200 : P.2.2.1.length ≤ 200) {y : Nat} (hy : y < W.length) : ∀ (d i n c : Nat), i + d = P.2.2.1.length → d < n → zf_X8_usesOf_L4 10000 m n (nI y) (nI c) (nI i) = some (nI (c + (P.2.2.2.1.drop i).count (nI y)))
  | d, i, 0, c, _, hn => absurd hn (Nat.not_lt_zero _)
  | 0, i, n + 1, c, hd, hn => by
    have h5 := h.2.2.2.2.1
    unfold zf_X8_usesOf_L4
    rw [h.2.2.1.1, if_pos (nI_le (by omega) (by omega)), List.drop_of_length_le (by omega)]
    rfl
  | d + 1, i, n + 1, c, hd, hn' => by
    have h5 := h.2.2.2.2.1
    have hi : i < P.2.2.1.length := by omega
    obtain ⟨a, e, s, q0, q1, q2, q3, q4, q5, q6, q7⟩ := h.2.2.2.2.2.2.2.2 i hi
    have hlen : ((l.drop a).take e).length = e := by rw [List.length_take, List.length_drop]; omega
    have hkd : m.2.2.2.2.2.2.2.2.2.2.1 i = zkd (W.map zpk) ((l.drop a).take e) s := by
      have := h.2.2.1.2 i hi
      rw [q6] at this
      exact (Option.some.inj this).symm
    have hln : m.2.2.2.2.2.2.2.2.2.1 i = nI e := by
      have := h.2.1.2 i (by rw [h.2.2.2.1]; exact hi)
      rw [q3] at this
      exact (Option.some.inj this).symm
    have hsa : zsg_at m a ((l.drop a).take e) := by
      refine ⟨by omega, fun j hj => ?_⟩
      rw [hlen] at hj
      rw [List.getElem?_take_of_lt hj, List.getElem?_drop]
      exact h.2.2.2.2.2.2.2.1.2 (a + j) (by omega)
    have hwy := List.getElem?_eq_getElem hy
    have hiw := zm_iw hm h20 (fun w hw => (hwd w hw).2.1) hwy hsa
    rw [hlen] at hiw
    have hus := zkd_use h20 hwd hn q4 (by omega) q5 hy
    have hiw2 : i < P.2.2.2.1.length := by omega
    have hw : P.2.2.2.1[i] = (if zkd (W.map zpk) ((l.drop a).take e) s &&& 1 = 0 then zfind (zpk ((l.drop a).take e)) (W.map zpk) 0 else -1) := by
      rw [List.getElem?_eq_getElem hiw2] at q7
      exact Option.some.inj q7
    rw [← hw] at hus
    have step : zf_X8_usesOf_L4 10000 m (n + 1) (nI y) (nI c) (nI i) = if zkd (W.map zpk) ((l.drop a).take e) s &&& 5 = 0 ∧ W[y]? = some ((l.drop a).take e) then zf_X8_usesOf_L4 10000 m n (nI y) (nI (c + 1)) (nI (i + 1)) else zf_X8_usesOf_L4 10000 m n (nI y) (nI c) (nI (i + 1)) := by
      rw [zf_X8_usesOf_L4]
      unfold zf_X8_usesOf_b48 zf_X8_usesOf_b49
      rw [h.2.2.1.1, if_neg (nI_ge hi (by omega)), if_neg (nI_in (by omega) (by omega)), zlet_eq, if_neg (nI_in (by omega) (by omega)), zlet_eq, if_neg (nI_in (by omega) (by omega)), zlet_eq, nI_clamp (by omega), hkd, q2, hln, hiw, Option.bind_some]
      simp only [zlet_eq, Int32.add_zero, nI_1]
      rw [hwy]
      by_cases e5 : zkd (W.map zpk) ((l.drop a).take e) s &&& 5 = 0
      · rw [if_pos e5]
        by_cases e6 : W[y] = (l.drop a).take e
        · rw [if_pos e6, if_neg z10, if_pos ⟨e5, by rw [e6]⟩]
        · rw [if_neg e6, if_pos rfl, if_neg (fun h => e6 (Option.some.inj h.2))]
      · rw [if_neg e5, if_neg (fun h => e5 h.1)]
    rw [step, zm_usL hm h20 hwd hn h h201 h200 hy d (i + 1) n c (by omega) (by omega), zm_usL hm h20 hwd hn h h201 h200 hy d (i + 1) n (c + 1) (by omega) (by omega), List.drop_eq_getElem_cons hiw2, List.count_cons]
    by_cases e : P.2.2.2.1[i] = nI y
    · rw [if_pos (hus.mp e), if_pos (show (P.2.2.2.1[i] == nI y) = true by rw [beq_iff_eq]; exact e)] <;> (first | rfl | (congr 2; omega))
    · rw [if_neg (fun h => e (hus.mpr h)), if_neg (show ¬ (P.2.2.2.1[i] == nI y) = true by rw [beq_iff_eq]; exact e)] <;> (first | rfl | (congr 2; omega))
theorem zm_us {m : zModel} {A : zAb} (hm : zmR m A) (hk : zok A) (h : zmQ A.2.1.2.2.2.2.1 A.2.1.2.1 m (zPn A.2.1)) {y : Nat} (hy : y < A.2.1.2.2.2.2.1.length) : zf_X8_usesOf 10000 m (nI y) = some (nI ((zPn A.2.1).2.2.2.1.count (nI y))) := by
  have o3 := hk.2.2.1
  have h200 := (zPn_le hk).2.2.1
  have hl : A.2.1.2.1.length ≤ 200 := Nat.le_trans o3.2.1 o3.1
  unfold zf_X8_usesOf
  have := zm_usL hm.1.2.2.2.2.2.2 o3.2.2.2.2.2.2.1 o3.2.2.2.2.2.2.2.1 o3.2.2.2.2.2.2.2.2.1 h (by omega) h200 hy (zPn A.2.1).2.2.1.length 0 10000 0 (by omega) (by omega)
  rw [nI_0, List.drop_zero, Nat.zero_add] at this
  exact this
theorem zm_usb {m : zModel} (a z : Int32) : zf_X8_uses_b14 10000 m a z m.1 m.2.1 m.2.2.1 m.2.2.2.1 m.2.2.2.2.1 m.2.2.2.2.2.1 m.2.2.2.2.2.2.1 m.2.2.2.2.2.2.2.1 m.2.2.2.2.2.2.2.2.1 m.2.2.2.2.2.2.2.2.2.1 m.2.2.2.2.2.2.2.2.2.2.1 m.2.2.2.2.2.2.2.2.2.2.2.1 m.2.2.2.2.2.2.2.2.2.2.2.2.1 m.2.2.2.2.2.2.2.2.2.2.2.2.2.1 m.2.2.2.2.2.2.2.2.2.2.2.2.2.2.1 m.2.2.2.2.2.2.2.2.2.2.2.2.2.2.2.1 m.2.2.2.2.2.2.2.2.2.2.2.2.2.2.2.2 = (zf_X8_refused 10000 m z).bind fun b3 => if b3.1 = 0 then ((zf_X8_decodes 10000 b3.2 (-1) 0).bind fun b5 => (zf_X8_usesOf 10000 b5 a).bind fun b6 => some (b6, b5)) else some (0, b3.2) := rfl
theorem mq_uses {m : zModel} {A : zAb} (h : zmR m A) (hk : zok A) (a : Int32) : ∃ m', zf_X8_uses 10000 m a = some ((aUse A a).2, m') ∧ zf_X8_thrown 10000 m' = some (aUse A a).1 ∧ zmR m' A := by
  unfold zf_X8_uses aUse
  rw [zm_usb, zm_usb]
  rcases zm_isIn h hk a with ⟨e, e1⟩ | ⟨i, hi, rfl, e, e1⟩
  · rw [e1, e, Option.bind_some, if_pos rfl, zm_yes (by decide), Option.bind_some, if_neg z10]
    exact ⟨_, rfl, rfl, h⟩
  · obtain ⟨m', g, q, s, f⟩ := zm_dec0 (m := zthr m 0) h hk
    have hR := zmR_fr (m := zthr m 0) h f
    rw [e1, e, Option.bind_some, if_neg z10, zm_no, Option.bind_some, if_pos rfl, g, Option.bind_some, zm_us hR hk q hi, Option.bind_some]
    exact ⟨m', rfl, by show some m'.2.2.2.2.2.1 = some 0; rw [f.2.2.2.2.2]; rfl, hR⟩
/-- both have no more characters, or one -/
theorem zm_wr2 {m : zModel} {P1 wr : List Int32} (h1 : zfl m.2.2.2.2.2.2.1 m.2.2.2.2.2.2.2.1 P1) (h2 : zml m.1 402 403 wr) (l1 : P1.length ≤ 200) (l2 : wr.length ≤ 200) : ∀ (d i n c : Nat), i + d = max P1.length wr.length → min P1.length wr.length ≤ i → d < n → zf_X8_wrong_L4 10000 m n (nI c) (nI i) = some (nI (c + d))
  | d, i, 0, c, _, _, hn => absurd hn (Nat.not_lt_zero _)
  | 0, i, n + 1, c, hd, hi, hn => by
    unfold zf_X8_wrong_L4
    rw [h1.1, if_neg (nI_nlt (by omega) (by omega)), zlet_eq, h2.1, if_pos (nI_le (by omega) (by omega))] <;> rfl
  | d + 1, i, n + 1, c, hd, hi, hn => by
    have b24 : zf_X8_wrong_b24 10000 m (zf_X8_wrong_L4 10000 m n) (nI c) (nI i) = some (nI (c + (d + 1))) := by
      have b64 : zf_X8_wrong_b64 10000 m (zf_X8_wrong_L4 10000 m n) (nI i) (nI c) = some (nI (c + (d + 1))) := by
        unfold zf_X8_wrong_b64 zf_X8_wrong_b69
        rw [zlet_eq, zlet_eq, nI_1, nI_1, zm_wr2 h1 h2 l1 l2 d (i + 1) n (c + 1) (by omega) (by omega) (by omega)]
        congr 2
        omega
      unfold zf_X8_wrong_b24
      by_cases e : P1.length ≤ i
      · rw [h1.1, if_pos (nI_le e (by omega))]
        exact b64
      · rw [h1.1, if_neg (nI_ge (by omega) (by omega)), zlet_eq, h2.1, if_pos (nI_le (by omega) (by omega))]
        exact b64
    unfold zf_X8_wrong_L4
    by_cases e : i < P1.length
    · rw [h1.1, if_pos (nI_lt e (by omega))]
      exact b24
    · rw [h1.1, if_neg (nI_nlt (by omega) (by omega)), zlet_eq, h2.1, if_neg (nI_ge (by omega) (by omega))]
      exact b24
theorem zm_wr1 {m : zModel} {P1 wr : List Int32} (h1 : zfl m.2.2.2.2.2.2.1 m.2.2.2.2.2.2.2.1 P1) (h2 : zml m.1 402 403 wr) (l1 : P1.length ≤ 200) (l2 : wr.length ≤ 200) : ∀ (d i n c : Nat), i + d = min P1.length wr.length → max P1.length wr.length - i < n → zf_X8_wrong_L4 10000 m n (nI c) (nI i) = some (nI (c + (max P1.length wr.length - min P1.length wr.length + zmis P1 wr d i)))
  | d, i, 0, c, _, hn => absurd hn (Nat.not_lt_zero _)
  | 0, i, n + 1, c, hd, hn => by
    rw [zm_wr2 h1 h2 l1 l2 (max P1.length wr.length - min P1.length wr.length) i (n + 1) c (by omega) (by omega) (by omega)]
    rfl
  | d + 1, i, n + 1, c, hd, hn => by
    have hp := zfl_at h1 (i := i) (by omega)
    have hw : m.1 (403 + i) = wr.getD i 0 := by
      have := h2.2 i (by omega)
      rw [zgetD (by omega)] at this
      exact (Option.some.inj this).symm
    unfold zf_X8_wrong_L4 zf_X8_wrong_b24 zf_X8_wrong_b64 zf_X8_wrong_b69
    rw [h1.1, if_pos (nI_lt (by omega) (by omega)), if_neg (nI_ge (by omega) (by omega)), h2.1, zlet_eq, if_neg (nI_ge (by omega) (by omega)), if_neg (nI_in (by omega) (by omega)), zlet_eq, zlet_eq, show (403 : Int32) + nI i = nI (403 + i) from nI_add 403 _, if_neg (nI_in (by omega) (by omega)), zlet_eq, nI_clamp (by omega), nI_clamp (by omega), hp, hw]
    simp only [zlet_eq, Int32.add_zero, nI_1]
    rw [zm_wr1 h1 h2 l1 l2 d (i + 1) n c (by omega) (by omega), zm_wr1 h1 h2 l1 l2 d (i + 1) n (c + 1) (by omega) (by omega)]
    rw [show zmis P1 wr (d + 1) i = (if P1.getD i 0 = wr.getD i 0 then 0 else 1) + zmis P1 wr d (i + 1) from rfl]
    by_cases e : P1.getD i 0 = wr.getD i 0
    · rw [if_pos e, if_pos e, Nat.zero_add]
    · rw [if_neg e, if_neg e]
      congr 2
      omega
theorem zm_wr {m : zModel} {A : zAb} (h : zmR m A) (hk : zok A) (q : zmQ A.2.1.2.2.2.2.1 A.2.1.2.1 m (zPn A.2.1)) : zf_X8_wrong 10000 m = some (nI (zwrong (zPn A.2.1).1 A.2.1.2.2.1)) := by
  have o3 := hk.2.2.1
  have l1 := (zPn_le hk).1
  have l2 : A.2.1.2.2.1.length ≤ 200 := Nat.le_trans o3.2.2.1 o3.1
  unfold zf_X8_wrong zwrong
  have := zm_wr1 q.1 h.1.2.2.1 l1 l2 (min (zPn A.2.1).1.length A.2.1.2.2.1.length) 0 10000 0 (by omega) (by omega)
  rw [nI_0, Nat.zero_add] at this
  exact this
theorem mq_wrong {m : zModel} {A : zAb} (h : zmR m A) (hk : zok A) : ∃ m', zf_X8_wrongCharacters 10000 m = some (nI (zwrong (zPn A.2.1).1 A.2.1.2.2.1), m') ∧ zmR m' A := by
  obtain ⟨m', e, q, s, f⟩ := zm_dec0 (m := zthr m 0) h hk
  have hR := zmR_fr (m := zthr m 0) h f
  unfold zf_X8_wrongCharacters
  rw [show zf_X8_decodes 10000 (m.1, m.2.1, m.2.2.1, m.2.2.2.1, m.2.2.2.2.1, 0, m.2.2.2.2.2.2) (-1) 0 = some m' from e, Option.bind_some, zm_wr hR hk q, Option.bind_some]
  exact ⟨m', rfl, hR⟩
end ZMC
