/-! ===== the pure part: the model learns, the call ===== -/
section ZMLO
/-- the letters of a word written into its row -/
theorem zm_lnL {v0 : zModel} {buf : List Int32} (hb : buf.length ≤ 60) (hc : ∀ c ∈ buf, ¬ zcode c = -1) {k : Nat} (hk : k < 20) : ∀ (d i n : Nat) (m : zModel), i + d = 6 → d < n → m.2.2.2.2.1 = nI buf.length → (∀ j : Nat, j < buf.length → buf[j]? = some (m.2.2.2.1 j)) →
    ∃ s', zf_X8_learn_L71 10000 v0 n (nI k) (nI i) m.1 m.2.1 m.2.2.1 m.2.2.2.1 m.2.2.2.2.1 m.2.2.2.2.2.1 m.2.2.2.2.2.2.1 m.2.2.2.2.2.2.2.1 m.2.2.2.2.2.2.2.2.1 m.2.2.2.2.2.2.2.2.2.1 m.2.2.2.2.2.2.2.2.2.2.1 m.2.2.2.2.2.2.2.2.2.2.2.1 m.2.2.2.2.2.2.2.2.2.2.2.2.1 m.2.2.2.2.2.2.2.2.2.2.2.2.2.1 m.2.2.2.2.2.2.2.2.2.2.2.2.2.2.1 m.2.2.2.2.2.2.2.2.2.2.2.2.2.2.2.1 m.2.2.2.2.2.2.2.2.2.2.2.2.2.2.2.2 = some (m.1 805 + 1, (s', m.2.1, m.2.2.1, m.2.2.2.1, 0, m.2.2.2.2.2)) ∧ s' 805 = m.1 805 + 1 ∧ (∀ q : Nat, q ≠ 805 → q < 826 + 6 * k + i ∨ 826 + 6 * k + 6 ≤ q → s' q = m.1 q) ∧ ∀ j : Nat, i ≤ j → j < 6 → j < buf.length → (buf.map zcode)[j]? = some (s' (826 + 6 * k + j))
  | d, i, 0, m, hd, hn, hnb, hbf => absurd hn (Nat.not_lt_zero _)
  | 0, i, n + 1, m, hd, hn, hnb, hbf => by
    unfold zf_X8_learn_L71 zf_X8_learn_b131
    rw [if_pos (show (6 : Int32) ≤ nI i from nI_le (a := 6) (by omega) (by omega)), zlet_eq, zlet_eq, zlet_eq, zlet_eq, zud_eq]
    exact ⟨_, rfl, zud_eq _ _ _, fun q h1 _ => zud_ne h1, fun j h1 h2 => absurd h2 (by omega)⟩
  | d + 1, i, n + 1, m, hd, hn, hnb, hbf => by
    have b112 : ∀ x : Int32, (i < buf.length → (buf.map zcode)[i]? = some x) → ∃ s', zf_X8_learn_b112 10000 v0 (zf_X8_learn_L71 10000 v0 n) (nI k) (nI i) (((826 : Int32) + ((6 : Int32) * nI k)) + nI i) x m.1 m.2.1 m.2.2.1 m.2.2.2.1 m.2.2.2.2.1 m.2.2.2.2.2.1 m.2.2.2.2.2.2.1 m.2.2.2.2.2.2.2.1 m.2.2.2.2.2.2.2.2.1 m.2.2.2.2.2.2.2.2.2.1 m.2.2.2.2.2.2.2.2.2.2.1 m.2.2.2.2.2.2.2.2.2.2.2.1 m.2.2.2.2.2.2.2.2.2.2.2.2.1 m.2.2.2.2.2.2.2.2.2.2.2.2.2.1 m.2.2.2.2.2.2.2.2.2.2.2.2.2.2.1 m.2.2.2.2.2.2.2.2.2.2.2.2.2.2.2.1 m.2.2.2.2.2.2.2.2.2.2.2.2.2.2.2.2 = some (m.1 805 + 1, (s', m.2.1, m.2.2.1, m.2.2.2.1, 0, m.2.2.2.2.2)) ∧ s' 805 = m.1 805 + 1 ∧ (∀ q : Nat, q ≠ 805 → q < 826 + 6 * k + i ∨ 826 + 6 * k + 6 ≤ q → s' q = m.1 q) ∧ ∀ j : Nat, i ≤ j → j < 6 → j < buf.length → (buf.map zcode)[j]? = some (s' (826 + 6 * k + j)) := by
      intro x hx
      unfold zf_X8_learn_b112
      rw [e826, if_neg (nI_in (by omega) (by omega)), nI_clamp (by omega), zlet_eq, zlet_eq, nI_1]
      have e805 : upd m.1 (826 + 6 * k + i) x 805 = m.1 805 := zud_ne (by omega)
      obtain ⟨s', g1, g2, g3, g4⟩ := zm_lnL (v0 := v0) hb hc hk d (i + 1) n (upd m.1 (826 + 6 * k + i) x, m.2) (by omega) (by omega) hnb hbf
      have g1 : zf_X8_learn_L71 10000 v0 n (nI k) (nI (i + 1)) (upd m.1 (826 + 6 * k + i) x) m.2.1 m.2.2.1 m.2.2.2.1 m.2.2.2.2.1 m.2.2.2.2.2.1 m.2.2.2.2.2.2.1 m.2.2.2.2.2.2.2.1 m.2.2.2.2.2.2.2.2.1 m.2.2.2.2.2.2.2.2.2.1 m.2.2.2.2.2.2.2.2.2.2.1 m.2.2.2.2.2.2.2.2.2.2.2.1 m.2.2.2.2.2.2.2.2.2.2.2.2.1 m.2.2.2.2.2.2.2.2.2.2.2.2.2.1 m.2.2.2.2.2.2.2.2.2.2.2.2.2.2.1 m.2.2.2.2.2.2.2.2.2.2.2.2.2.2.2.1 m.2.2.2.2.2.2.2.2.2.2.2.2.2.2.2.2 = some (upd m.1 (826 + 6 * k + i) x 805 + 1, (s', m.2.1, m.2.2.1, m.2.2.2.1, 0, m.2.2.2.2.2)) := g1
      have g2 : s' 805 = upd m.1 (826 + 6 * k + i) x 805 + 1 := g2
      have g3 : ∀ q : Nat, q ≠ 805 → q < 826 + 6 * k + (i + 1) ∨ 826 + 6 * k + 6 ≤ q → s' q = upd m.1 (826 + 6 * k + i) x q := g3
      rw [e805] at g1 g2
      refine ⟨s', g1, g2, fun q h1 h2 => ?_, fun j h1 h2 h3 => ?_⟩
      · rw [g3 q h1 (by omega)]
        exact zud_ne (by omega)
      · by_cases e : j = i
        · subst e
          rw [g3 _ (by omega) (Or.inl (by omega)), zud_eq]
          exact hx h3
        · exact g4 j (by omega) h2 h3
    unfold zf_X8_learn_L71
    rw [if_neg (show ¬ (6 : Int32) ≤ nI i from nI_ge (b := 6) (by omega) (by omega))]
    by_cases hi : i < buf.length
    · have hx : m.2.2.2.1 i = buf[i] := by
        have := hbf i hi
        rw [List.getElem?_eq_getElem hi] at this
        exact (Option.some.inj this).symm
      rw [if_neg (show ¬ m.2.2.2.2.1 ≤ nI i by rw [hnb]; exact nI_ge hi (by omega)), if_neg (nI_in (by omega) (by omega)), zlet_eq, nI_clamp (by omega), hx, zcode_m, if_neg (hc _ (List.getElem_mem hi)), Option.bind_some]
      exact b112 (zcode buf[i]) (fun _ => by rw [List.getElem?_map, List.getElem?_eq_getElem hi]; rfl)
    · rw [if_pos (show m.2.2.2.2.1 ≤ nI i by rw [hnb]; exact nI_le (by omega) (by omega))]
      exact b112 0 (fun h => absurd h hi)
theorem zm_lnb {m : zModel} (z : Int32) : zf_X8_learn_b26 10000 m z m.1 m.2.1 m.2.2.1 m.2.2.2.1 m.2.2.2.2.1 m.2.2.2.2.2.1 m.2.2.2.2.2.2.1 m.2.2.2.2.2.2.2.1 m.2.2.2.2.2.2.2.2.1 m.2.2.2.2.2.2.2.2.2.1 m.2.2.2.2.2.2.2.2.2.2.1 m.2.2.2.2.2.2.2.2.2.2.2.1 m.2.2.2.2.2.2.2.2.2.2.2.2.1 m.2.2.2.2.2.2.2.2.2.2.2.2.2.1 m.2.2.2.2.2.2.2.2.2.2.2.2.2.2.1 m.2.2.2.2.2.2.2.2.2.2.2.2.2.2.2.1 m.2.2.2.2.2.2.2.2.2.2.2.2.2.2.2.2 = (zf_X8_refused 10000 m z).bind fun b5 => if b5.1 = 0 then ((zf_X8_saves 10000 b5.2).bind fun b7 => (zf_X8_known 10000 b7).bind fun b8 => zlet (b7.1 805) fun x9 => if b8 = x9 then (if (806 : Int32) + b8 < 0 ∨ 946 ≤ ((806 : Int32) + b8).toNatClampNeg then none else zlet (upd b7.1 ((806 : Int32) + b8).toNatClampNeg b7.2.2.2.2.1) fun f11 => zf_X8_learn_L71 10000 m 10000 b8 0 f11 b7.2.1 b7.2.2.1 b7.2.2.2.1 b7.2.2.2.2.1 b7.2.2.2.2.2.1 b7.2.2.2.2.2.2.1 b7.2.2.2.2.2.2.2.1 b7.2.2.2.2.2.2.2.2.1 b7.2.2.2.2.2.2.2.2.2.1 b7.2.2.2.2.2.2.2.2.2.2.1 b7.2.2.2.2.2.2.2.2.2.2.2.1 b7.2.2.2.2.2.2.2.2.2.2.2.2.1 b7.2.2.2.2.2.2.2.2.2.2.2.2.2.1 b7.2.2.2.2.2.2.2.2.2.2.2.2.2.2.1 b7.2.2.2.2.2.2.2.2.2.2.2.2.2.2.2.1 b7.2.2.2.2.2.2.2.2.2.2.2.2.2.2.2.2) else (zf_X8_learn_b131 10000 m b7.1 b7.2.1 b7.2.2.1 b7.2.2.2.1 b7.2.2.2.2.1 b7.2.2.2.2.2.1 b7.2.2.2.2.2.2.1 b7.2.2.2.2.2.2.2.1 b7.2.2.2.2.2.2.2.2.1 b7.2.2.2.2.2.2.2.2.2.1 b7.2.2.2.2.2.2.2.2.2.2.1 b7.2.2.2.2.2.2.2.2.2.2.2.1 b7.2.2.2.2.2.2.2.2.2.2.2.2.1 b7.2.2.2.2.2.2.2.2.2.2.2.2.2.1 b7.2.2.2.2.2.2.2.2.2.2.2.2.2.2.1 b7.2.2.2.2.2.2.2.2.2.2.2.2.2.2.2.1 b7.2.2.2.2.2.2.2.2.2.2.2.2.2.2.2.2)) else some (0, b5.2) := rfl
theorem zMS_lrn {s s' : Nat → Int32} {S : zNow} (h : zMS s S) (hz : zsz S) {w : List Int32} (hw : w.length ≤ 6) (hl : S.2.2.2.2.1.length < 20) (h1 : s' 805 = nI (S.2.2.2.2.1.length + 1)) (h2 : s' (806 + S.2.2.2.2.1.length) = nI w.length) (h3 : ∀ j : Nat, j < w.length → w[j]? = some (s' (826 + 6 * S.2.2.2.2.1.length + j))) (h4 : ∀ q : Nat, q ≠ 805 → q ≠ 806 + S.2.2.2.2.1.length → q < 826 + 6 * S.2.2.2.2.1.length → s' q = s q) : zMS s' (zAddW S w) := by
  obtain ⟨z1, z2, z3, z4, z5, z6, z7⟩ := hz
  have l1 : S.1.length ≤ 200 := z1
  have l2 : S.2.1.length ≤ 200 := Nat.le_trans z2 z1
  have l3 : S.2.2.1.length ≤ 200 := Nat.le_trans z3 z1
  obtain ⟨g1, g2, g3, g4, g5, g6, g7, g8⟩ := h
  refine ⟨zml_reg (c := 0) g1 l1 (fun k a b => h4 k (by omega) (by omega) (by omega)), zml_reg (c := 201) g2 l2 (fun k a b => h4 k (by omega) (by omega) (by omega)), zml_reg (c := 402) g3 l3 (fun k a b => h4 k (by omega) (by omega) (by omega)), by rw [h4 603 (by omega) (by omega) (by omega)]; exact g4, by rw [h4 604 (by omega) (by omega) (by omega)]; exact g5, fun i hi => by rw [h4 _ (by omega) (by omega) (by omega)]; exact g6 i hi, ?_, fun i x hx => ?_⟩
  · show s' 805 = nI (S.2.2.2.2.1 ++ [w]).length
    rw [List.length_append]
    exact h1
  · have hx : (S.2.2.2.2.1 ++ [w])[i]? = some x := hx
    have hi := (List.getElem?_eq_some_iff.mp hx).1
    rw [List.length_append] at hi
    simp only [List.length_cons, List.length_nil] at hi
    by_cases e : i = S.2.2.2.2.1.length
    · subst e
      rw [List.getElem?_append_right (Nat.le_refl _), Nat.sub_self] at hx
      obtain rfl : w = x := Option.some.inj hx
      exact ⟨h2, h3⟩
    · rw [List.getElem?_append_left (by omega)] at hx
      obtain ⟨q1, q2⟩ := g8 i x hx
      have := z7 x (List.mem_of_getElem? hx)
      exact ⟨by rw [h4 _ (by omega) (by omega) (by omega)]; exact q1, fun j hj => by rw [h4 _ (by omega) (by omega) (by omega)]; exact q2 j hj⟩
theorem mk_lrn {m : zModel} {A : zAb} (h : zmR m A) (hk : zok A) : ∃ m', zf_X8_learn 10000 m = some ((aLrn A).2.1, m') ∧ zf_X8_thrown 10000 m' = some (aLrn A).1 ∧ zmR m' (aLrn A).2.2 := by
  have o3 := hk.2.2.1
  have h20 := o3.2.2.2.2.2.2.1
  have h60 := hk.2.1
  unfold zf_X8_learn aLrn
  rw [zm_hw h hk, Option.bind_some, zm_lnb, zm_lnb, zm_lnb]
  by_cases hw : ¬ (A.1.length ≤ 6 ∧ A.1.all zlet0 = true) ∨ A.1 = []
  · rw [if_pos hw, if_pos rfl, if_pos hw, zm_yes (by decide), Option.bind_some, if_neg z10]
    exact ⟨_, rfl, rfl, h⟩
  have hg : A.1.length ≤ 6 ∧ A.1.all zlet0 = true := Classical.not_not.mp (fun h => hw (Or.inl h))
  rw [if_neg hw, if_neg z10, if_neg hw, zm_kn h hk, Option.bind_some]
  obtain ⟨k, g1, g2, g3, g4⟩ := zm_sav (m := zthr m 0) h hk
  have hk2 : zok (A.1, A.2.1, zHs A.2.2 A.2.1) := zok_push hk ⟨hk.1, hk.2.1⟩ o3 (zpre_refl _)
  have hkn := zm_kn g2 hk2
  have hkn : zf_X8_known 10000 k = some (nI (zfi (A.1.map zcode) A.2.1.2.2.2.2.1 0)) := hkn
  have e805 : k.1 805 = nI A.2.1.2.2.2.2.1.length := g2.1.2.2.2.2.2.2.1
  have hth : k.2.2.2.2.2.1 = 0 := by
    have := congrArg (fun x => x.2.2.1) g4
    exact this
  by_cases hin : A.1.map zcode ∈ A.2.1.2.2.2.2.1
  · have hlt := zfi_in A.2.1.2.2.2.2.1 0 hin
    rw [Nat.zero_add] at hlt
    rw [if_neg (show ¬ nI (zfi (A.1.map zcode) A.2.1.2.2.2.2.1 0) = 20 from fun e => by
      have := (nI_eq (b := 20) (by omega) (by omega)).mp e
      omega), if_pos hin, zm_no, Option.bind_some, if_pos rfl, g1, Option.bind_some, hkn, Option.bind_some, zlet_eq, e805, if_neg (fun e => by
      have := (nI_eq (by omega) (by omega)).mp e
      omega)]
    unfold zf_X8_learn_b131
    rw [zlet_eq, e805]
    exact ⟨_, rfl, by show some k.2.2.2.2.2.1 = some 0; rw [hth], g2.1, g2.2.1, g2.2.2.1, nI_0.symm, fun i hi => absurd hi (Nat.not_lt_zero _)⟩
  · have hno := zfi_no A.2.1.2.2.2.2.1 0 hin
    rw [Nat.zero_add] at hno
    rw [hno, if_neg hin]
    by_cases hl : A.2.1.2.2.2.2.1.length < 20
    · rw [if_neg (show ¬ nI A.2.1.2.2.2.2.1.length = 20 from fun e => by
        have := (nI_eq (b := 20) (by omega) (by omega)).mp e
        omega), if_pos hl, zm_no, Option.bind_some, if_pos rfl, g1, Option.bind_some, hkn, hno, Option.bind_some, zlet_eq, e805, if_pos rfl, show (806 : Int32) + nI A.2.1.2.2.2.2.1.length = nI (806 + A.2.1.2.2.2.2.1.length) from nI_add 806 _, if_neg (nI_in (by omega) (by omega)), nI_clamp (by omega), zlet_eq]
      obtain ⟨s', q1, q2, q3, q4⟩ := zm_lnL (v0 := m) h60 hk.1 hl 6 0 10000 (upd k.1 (806 + A.2.1.2.2.2.2.1.length) k.2.2.2.2.1, k.2) (by omega) (by omega) g2.2.2.2.1 g2.2.2.2.2
      rw [nI_0] at q1
      have f805 : upd k.1 (806 + A.2.1.2.2.2.2.1.length) k.2.2.2.2.1 805 = nI A.2.1.2.2.2.2.1.length := by rw [zud_ne (by omega)]; exact e805
      have q1 : zf_X8_learn_L71 10000 m 10000 (nI A.2.1.2.2.2.2.1.length) 0 (upd k.1 (806 + A.2.1.2.2.2.2.1.length) k.2.2.2.2.1) k.2.1 k.2.2.1 k.2.2.2.1 k.2.2.2.2.1 k.2.2.2.2.2.1 k.2.2.2.2.2.2.1 k.2.2.2.2.2.2.2.1 k.2.2.2.2.2.2.2.2.1 k.2.2.2.2.2.2.2.2.2.1 k.2.2.2.2.2.2.2.2.2.2.1 k.2.2.2.2.2.2.2.2.2.2.2.1 k.2.2.2.2.2.2.2.2.2.2.2.2.1 k.2.2.2.2.2.2.2.2.2.2.2.2.2.1 k.2.2.2.2.2.2.2.2.2.2.2.2.2.2.1 k.2.2.2.2.2.2.2.2.2.2.2.2.2.2.2.1 k.2.2.2.2.2.2.2.2.2.2.2.2.2.2.2.2 = some (upd k.1 (806 + A.2.1.2.2.2.2.1.length) k.2.2.2.2.1 805 + 1, (s', k.2.1, k.2.2.1, k.2.2.2.1, 0, k.2.2.2.2.2)) := q1
      have q2 : s' 805 = upd k.1 (806 + A.2.1.2.2.2.2.1.length) k.2.2.2.2.1 805 + 1 := q2
      have q3 : ∀ q : Nat, q ≠ 805 → q < 826 + 6 * A.2.1.2.2.2.2.1.length + 0 ∨ 826 + 6 * A.2.1.2.2.2.2.1.length + 6 ≤ q → s' q = upd k.1 (806 + A.2.1.2.2.2.2.1.length) k.2.2.2.2.1 q := q3
      rw [f805, nI_1] at q1 q2
      rw [q1]
      have f1 : s' (806 + A.2.1.2.2.2.2.1.length) = nI (A.1.map zcode).length := by
        rw [q3 _ (by omega) (Or.inl (by omega)), zud_eq, List.length_map]
        exact g2.2.2.2.1
      have f2 : ∀ j : Nat, j < (A.1.map zcode).length → (A.1.map zcode)[j]? = some (s' (826 + 6 * A.2.1.2.2.2.2.1.length + j)) := fun j hj => by
        rw [List.length_map] at hj
        exact q4 j (Nat.zero_le _) (by omega) hj
      have f3 : ∀ q : Nat, q ≠ 805 → q ≠ 806 + A.2.1.2.2.2.2.1.length → q < 826 + 6 * A.2.1.2.2.2.2.1.length → s' q = k.1 q := fun q h1 h2 h3 => by
        rw [q3 q h1 (Or.inl (by omega))]
        exact zud_ne h2
      have hMS : zMS s' (zAddW A.2.1 (A.1.map zcode)) := zMS_lrn (S := A.2.1) g2.1 o3.sz (by rw [List.length_map]; exact hg.1) hl q2 f1 f2 f3
      exact ⟨_, rfl, by show some k.2.2.2.2.2.1 = some 0; rw [hth], hMS, g2.2.1, g2.2.2.1, nI_0.symm, fun i hi => absurd hi (Nat.not_lt_zero _)⟩
    · rw [if_pos (show nI A.2.1.2.2.2.2.1.length = 20 by rw [show A.2.1.2.2.2.2.1.length = 20 by omega]; decide), if_neg hl, zm_yes (by decide), Option.bind_some, if_neg z10]
      exact ⟨_, rfl, rfl, h⟩
end ZMLO
