/-! ===== the pure part: the model forgets ===== -/
section ZMF
/-- the row j of the words holds w -/
def zment (s : Nat → Int32) (j : Nat) (w : List Int32) : Prop := s (806 + j) = nI w.length ∧ ∀ q : Nat, q < w.length → w[q]? = some (s (826 + 6 * j + q))
theorem zm_fg6 {v0 : zModel} (rec51 : Int32 → Int32 → (Nat → Int32) → (Nat → Int32) → Int32 → (Nat → Int32) → Int32 → Int32 → (Nat → Int32) → Int32 → (Nat → Int32) → (Nat → Int32) → (Nat → Int32) → Int32 → Int32 → Int32 → Int32 → (Nat → Int32) → Int32 → Option (Int32 × zModel)) (y2 : Int32) {y : Nat} (hy : y < 19) : ∀ (d i n : Nat) (m : zModel), i + d = 6 → d < n →
    ∃ s', zf_X8_forget_L88 10000 v0 rec51 n y2 (nI y) (nI i) m.1 m.2.1 m.2.2.1 m.2.2.2.1 m.2.2.2.2.1 m.2.2.2.2.2.1 m.2.2.2.2.2.2.1 m.2.2.2.2.2.2.2.1 m.2.2.2.2.2.2.2.2.1 m.2.2.2.2.2.2.2.2.2.1 m.2.2.2.2.2.2.2.2.2.2.1 m.2.2.2.2.2.2.2.2.2.2.2.1 m.2.2.2.2.2.2.2.2.2.2.2.2.1 m.2.2.2.2.2.2.2.2.2.2.2.2.2.1 m.2.2.2.2.2.2.2.2.2.2.2.2.2.2.1 m.2.2.2.2.2.2.2.2.2.2.2.2.2.2.2.1 m.2.2.2.2.2.2.2.2.2.2.2.2.2.2.2.2 = rec51 y2 (nI (y + 1)) s' m.2.1 m.2.2.1 m.2.2.2.1 m.2.2.2.2.1 m.2.2.2.2.2.1 m.2.2.2.2.2.2.1 m.2.2.2.2.2.2.2.1 m.2.2.2.2.2.2.2.2.1 m.2.2.2.2.2.2.2.2.2.1 m.2.2.2.2.2.2.2.2.2.2.1 m.2.2.2.2.2.2.2.2.2.2.2.1 m.2.2.2.2.2.2.2.2.2.2.2.2.1 m.2.2.2.2.2.2.2.2.2.2.2.2.2.1 m.2.2.2.2.2.2.2.2.2.2.2.2.2.2.1 m.2.2.2.2.2.2.2.2.2.2.2.2.2.2.2.1 m.2.2.2.2.2.2.2.2.2.2.2.2.2.2.2.2 ∧ (∀ q : Nat, q < 826 + 6 * y + i ∨ 826 + 6 * y + 6 ≤ q → s' q = m.1 q) ∧ ∀ q : Nat, i ≤ q → q < 6 → s' (826 + 6 * y + q) = m.1 (826 + 6 * (y + 1) + q)
  | d, i, 0, m, hd, hn => absurd hn (Nat.not_lt_zero _)
  | 0, i, n + 1, m, hd, hn => by
    unfold zf_X8_forget_L88
    rw [if_pos (show (6 : Int32) ≤ nI i from nI_le (a := 6) (by omega) (by omega)), zlet_eq, nI_1]
    exact ⟨m.1, rfl, fun q _ => rfl, fun q h1 h2 => absurd h2 (by omega)⟩
  | d + 1, i, n + 1, m, hd, hn => by
    unfold zf_X8_forget_L88
    rw [if_neg (show ¬ (6 : Int32) ≤ nI i from nI_ge (b := 6) (by omega) (by omega)), nI_1, zlet_eq, e826, e826, if_neg (nI_in (by omega) (by omega)), zlet_eq, if_neg (nI_in (by omega) (by omega)), zlet_eq, zlet_eq, nI_1, nI_clamp (by omega), nI_clamp (by omega)]
    obtain ⟨s', g1, g2, g3⟩ := zm_fg6 (v0 := v0) rec51 y2 hy d (i + 1) n (upd m.1 (826 + 6 * y + i) (m.1 (826 + 6 * (y + 1) + i)), m.2) (by omega) (by omega)
    have g2 : ∀ q : Nat, q < 826 + 6 * y + (i + 1) ∨ 826 + 6 * y + 6 ≤ q → s' q = upd m.1 (826 + 6 * y + i) (m.1 (826 + 6 * (y + 1) + i)) q := g2
    have g3 : ∀ q : Nat, i + 1 ≤ q → q < 6 → s' (826 + 6 * y + q) = upd m.1 (826 + 6 * y + i) (m.1 (826 + 6 * (y + 1) + i)) (826 + 6 * (y + 1) + q) := g3
    refine ⟨s', g1, fun q hq => ?_, fun q h1 h2 => ?_⟩
    · rw [g2 q (by omega)]
      exact zud_ne (by omega)
    · by_cases e : q = i
      · subst e
        rw [g2 _ (Or.inl (by omega))]
        exact zud_eq _ _ _
      · rw [g3 q (by omega) h2]
        exact zud_ne (by omega)
theorem zm_fgL {v0 : zModel} {ws : List (List Int32)} (h20 : ws.length ≤ 20) (hw6 : ∀ w ∈ ws, w.length ≤ 6) {i0 : Nat} (hi0 : i0 < ws.length) (y2 : Int32) : ∀ (d y n : Nat) (m : zModel), y + d = ws.length - 1 → d < n → i0 ≤ y → m.1 805 = nI (ws.length - 1) → (∀ (j : Nat) (w : List Int32), j < y → (ws.eraseIdx i0)[j]? = some w → zment m.1 j w) → (∀ (j : Nat) (w : List Int32), y ≤ j → ws[j]? = some w → zment m.1 j w) →
    ∃ s', zf_X8_forget_L51 10000 v0 n y2 (nI y) m.1 m.2.1 m.2.2.1 m.2.2.2.1 m.2.2.2.2.1 m.2.2.2.2.2.1 m.2.2.2.2.2.2.1 m.2.2.2.2.2.2.2.1 m.2.2.2.2.2.2.2.2.1 m.2.2.2.2.2.2.2.2.2.1 m.2.2.2.2.2.2.2.2.2.2.1 m.2.2.2.2.2.2.2.2.2.2.2.1 m.2.2.2.2.2.2.2.2.2.2.2.2.1 m.2.2.2.2.2.2.2.2.2.2.2.2.2.1 m.2.2.2.2.2.2.2.2.2.2.2.2.2.2.1 m.2.2.2.2.2.2.2.2.2.2.2.2.2.2.2.1 m.2.2.2.2.2.2.2.2.2.2.2.2.2.2.2.2 = some (y2, (s', m.2)) ∧ s' 805 = nI (ws.length - 1) ∧ (∀ q : Nat, q < 805 → s' q = m.1 q) ∧ ∀ (j : Nat) (w : List Int32), (ws.eraseIdx i0)[j]? = some w → zment s' j w
  | d, y, 0, m, hd, hn, hy, h805, hA, hB => absurd hn (Nat.not_lt_zero _)
  | 0, y, n + 1, m, hd, hn, hy, h805, hA, hB => by
    unfold zf_X8_forget_L51
    rw [zlet_eq, h805, if_pos (nI_le (by omega) (by omega))]
    refine ⟨m.1, rfl, h805, fun q _ => rfl, fun j w hw => hA j w ?_ hw⟩
    have := (List.getElem?_eq_some_iff.mp hw).1
    rw [List.length_eraseIdx, if_pos hi0] at this
    omega
  | d + 1, y, n + 1, m, hd, hn, hy, h805, hA, hB => by
    unfold zf_X8_forget_L51
    have ea : ((806 : Int32) + nI y) + 1 = nI (806 + y + 1) := by
      rw [show (806 : Int32) + nI y = nI (806 + y) from nI_add 806 _, nI_1]
    rw [zlet_eq, h805, if_neg (nI_ge (by omega) (by omega)), zlet_eq, ea, if_neg (nI_in (by omega) (by omega)), zlet_eq, show (806 : Int32) + nI y = nI (806 + y) from nI_add 806 _, if_neg (nI_in (by omega) (by omega)), zlet_eq, nI_clamp (by omega), nI_clamp (by omega)]
    obtain ⟨s1, g1, g2, g3⟩ := zm_fg6 (v0 := v0) (zf_X8_forget_L51 10000 v0 n) y2 (y := y) (by omega) 6 0 10000 (upd m.1 (806 + y) (m.1 (806 + y + 1)), m.2) (by omega) (by omega)
    rw [nI_0] at g1
    have g1 : zf_X8_forget_L88 10000 v0 (zf_X8_forget_L51 10000 v0 n) 10000 y2 (nI y) 0 (upd m.1 (806 + y) (m.1 (806 + y + 1))) m.2.1 m.2.2.1 m.2.2.2.1 m.2.2.2.2.1 m.2.2.2.2.2.1 m.2.2.2.2.2.2.1 m.2.2.2.2.2.2.2.1 m.2.2.2.2.2.2.2.2.1 m.2.2.2.2.2.2.2.2.2.1 m.2.2.2.2.2.2.2.2.2.2.1 m.2.2.2.2.2.2.2.2.2.2.2.1 m.2.2.2.2.2.2.2.2.2.2.2.2.1 m.2.2.2.2.2.2.2.2.2.2.2.2.2.1 m.2.2.2.2.2.2.2.2.2.2.2.2.2.2.1 m.2.2.2.2.2.2.2.2.2.2.2.2.2.2.2.1 m.2.2.2.2.2.2.2.2.2.2.2.2.2.2.2.2 = zf_X8_forget_L51 10000 v0 n y2 (nI (y + 1)) s1 m.2.1 m.2.2.1 m.2.2.2.1 m.2.2.2.2.1 m.2.2.2.2.2.1 m.2.2.2.2.2.2.1 m.2.2.2.2.2.2.2.1 m.2.2.2.2.2.2.2.2.1 m.2.2.2.2.2.2.2.2.2.1 m.2.2.2.2.2.2.2.2.2.2.1 m.2.2.2.2.2.2.2.2.2.2.2.1 m.2.2.2.2.2.2.2.2.2.2.2.2.1 m.2.2.2.2.2.2.2.2.2.2.2.2.2.1 m.2.2.2.2.2.2.2.2.2.2.2.2.2.2.1 m.2.2.2.2.2.2.2.2.2.2.2.2.2.2.2.1 m.2.2.2.2.2.2.2.2.2.2.2.2.2.2.2.2 := g1
    have g2 : ∀ q : Nat, q < 826 + 6 * y + 0 ∨ 826 + 6 * y + 6 ≤ q → s1 q = upd m.1 (806 + y) (m.1 (806 + y + 1)) q := g2
    have g3 : ∀ q : Nat, 0 ≤ q → q < 6 → s1 (826 + 6 * y + q) = upd m.1 (806 + y) (m.1 (806 + y + 1)) (826 + 6 * (y + 1) + q) := g3
    have hs : ∀ q : Nat, q ≠ 806 + y → q < 826 + 6 * y ∨ 826 + 6 * y + 6 ≤ q → s1 q = m.1 q := fun q h1 h2 => by
      rw [g2 q (by omega)]
      exact zud_ne h1
    rw [g1]
    have ent : ∀ (j : Nat) (w : List Int32), j ≠ y → j < 20 → w.length ≤ 6 → zment m.1 j w → zment s1 j w := fun j w h1 h2 h3 ⟨q1, q2⟩ =>
      ⟨by rw [hs _ (by omega) (by omega)]; exact q1, fun q hq => by rw [hs _ (by omega) (by omega)]; exact q2 q hq⟩
    obtain ⟨s', k1, k2, k3, k4⟩ := zm_fgL (v0 := v0) h20 hw6 hi0 y2 d (y + 1) n (s1, m.2) (by omega) (by omega) (by omega)
      (by show s1 805 = _; rw [hs 805 (by omega) (by omega)]; exact h805)
      (fun j w hj hw => by
        have hl := (List.getElem?_eq_some_iff.mp hw).1
        rw [List.length_eraseIdx, if_pos hi0] at hl
        by_cases e : j = y
        · subst e
          rw [List.getElem?_eraseIdx_of_ge (by omega)] at hw
          have hwl := hw6 w (List.mem_of_getElem? hw)
          obtain ⟨q1, q2⟩ := hB (j + 1) w (by omega) hw
          refine ⟨?_, fun q hq => ?_⟩
          · show s1 (806 + j) = _
            rw [g2 _ (Or.inl (by omega)), zud_eq]
            exact q1
          · show w[q]? = some (s1 (826 + 6 * j + q))
            rw [g3 q (Nat.zero_le _) (by omega), zud_ne (by omega)]
            exact q2 q hq
        · exact ent j w e (by omega) (hw6 w ((List.eraseIdx_sublist _ _).subset (List.mem_of_getElem? hw))) (hA j w (by omega) hw))
      (fun j w hj hw => ent j w (by omega) (by have := (List.getElem?_eq_some_iff.mp hw).1; omega) (hw6 w (List.mem_of_getElem? hw)) (hB j w (by omega) hw))
    refine ⟨s', k1, k2, fun q hq => ?_, k4⟩
    rw [k3 q hq]
    exact hs q (by omega) (by omega)
theorem zm_fgb {m : zModel} (a z : Int32) : zf_X8_forget_b14 10000 m a z m.1 m.2.1 m.2.2.1 m.2.2.2.1 m.2.2.2.2.1 m.2.2.2.2.2.1 m.2.2.2.2.2.2.1 m.2.2.2.2.2.2.2.1 m.2.2.2.2.2.2.2.2.1 m.2.2.2.2.2.2.2.2.2.1 m.2.2.2.2.2.2.2.2.2.2.1 m.2.2.2.2.2.2.2.2.2.2.2.1 m.2.2.2.2.2.2.2.2.2.2.2.2.1 m.2.2.2.2.2.2.2.2.2.2.2.2.2.1 m.2.2.2.2.2.2.2.2.2.2.2.2.2.2.1 m.2.2.2.2.2.2.2.2.2.2.2.2.2.2.2.1 m.2.2.2.2.2.2.2.2.2.2.2.2.2.2.2.2 = (zf_X8_refused 10000 m z).bind fun b3 => if b3.1 = 0 then ((zf_X8_saves 10000 b3.2).bind fun b5 => zlet ((806 : Int32) + a) fun x6 => if x6 < 0 ∨ 946 ≤ x6.toNatClampNeg then none else zlet (b5.1 x6.toNatClampNeg) fun x7 => zlet (b5.1 805) fun x8 => zlet (x8 - (1 : Int32)) fun x9 => zlet (upd b5.1 805 x9) fun f10 => zf_X8_forget_L51 10000 m 10000 x7 a f10 b5.2.1 b5.2.2.1 b5.2.2.2.1 b5.2.2.2.2.1 b5.2.2.2.2.2.1 b5.2.2.2.2.2.2.1 b5.2.2.2.2.2.2.2.1 b5.2.2.2.2.2.2.2.2.1 b5.2.2.2.2.2.2.2.2.2.1 b5.2.2.2.2.2.2.2.2.2.2.1 b5.2.2.2.2.2.2.2.2.2.2.2.1 b5.2.2.2.2.2.2.2.2.2.2.2.2.1 b5.2.2.2.2.2.2.2.2.2.2.2.2.2.1 b5.2.2.2.2.2.2.2.2.2.2.2.2.2.2.1 b5.2.2.2.2.2.2.2.2.2.2.2.2.2.2.2.1 b5.2.2.2.2.2.2.2.2.2.2.2.2.2.2.2.2) else some (0, b3.2) := rfl
theorem mk_fgt {m : zModel} {A : zAb} (h : zmR m A) (hk : zok A) (a : Int32) : ∃ m', zf_X8_forget 10000 m a = some ((aFgt A a).2.1, m') ∧ zf_X8_thrown 10000 m' = some (aFgt A a).1 ∧ zmR m' (aFgt A a).2.2 := by
  have o3 := hk.2.2.1
  have h20 := o3.2.2.2.2.2.2.1
  have oz := o3.sz
  unfold zf_X8_forget
  rw [zm_fgb, zm_fgb]
  rcases zm_isIn h hk a with ⟨e, e1⟩ | ⟨i, hi, rfl, e, e1⟩
  · rw [e1, Option.bind_some, if_pos rfl, aFgt_n e, zm_yes (by decide), Option.bind_some, if_neg z10]
    exact ⟨_, rfl, rfl, h⟩
  · obtain ⟨k, g1, g2, g3, g4⟩ := zm_sav (m := zthr m 0) h hk
    have e805 : k.1 805 = nI A.2.1.2.2.2.2.1.length := g2.1.2.2.2.2.2.2.1
    have hth : k.2.2.2.2.2.1 = 0 := congrArg (fun x => x.2.2.1) g4
    have hwi : A.2.1.2.2.2.2.1[i]? = some (A.2.1.2.2.2.2.1.getD i []) := by rw [List.getD_eq_getElem?_getD, List.getElem?_eq_getElem hi]; rfl
    have e806 : k.1 (806 + i) = nI (A.2.1.2.2.2.2.1.getD i []).length := (g2.1.2.2.2.2.2.2.2 i _ hwi).1
    have epr : nI A.2.1.2.2.2.2.1.length - 1 = nI (A.2.1.2.2.2.2.1.length - 1) := by
      obtain ⟨p, hp⟩ : ∃ p, A.2.1.2.2.2.2.1.length = p + 1 := ⟨A.2.1.2.2.2.2.1.length - 1, by omega⟩
      rw [hp, nI_pred, Nat.add_sub_cancel]
    rw [e1, Option.bind_some, if_neg z10, aFgt_s e, zm_no, Option.bind_some, if_pos rfl, g1, Option.bind_some, zlet_eq, show (806 : Int32) + nI i = nI (806 + i) from nI_add 806 _, if_neg (nI_in (by omega) (by omega)), zlet_eq, nI_clamp (by omega), e806, zlet_eq, zlet_eq, zlet_eq, e805, epr]
    have hk1 : ∀ (j : Nat) (w : List Int32), A.2.1.2.2.2.2.1[j]? = some w → zment (upd k.1 805 (nI (A.2.1.2.2.2.2.1.length - 1))) j w := fun j w hw => by
      obtain ⟨q1, q2⟩ := g2.1.2.2.2.2.2.2.2 j w hw
      exact ⟨by rw [zud_ne (by omega)]; exact q1, fun q hq => by rw [zud_ne (by omega)]; exact q2 q hq⟩
    obtain ⟨s', k1, k2, k3, k4⟩ := zm_fgL (v0 := m) h20 oz.2.2.2.2.2.2 hi (nI (A.2.1.2.2.2.2.1.getD i []).length) (A.2.1.2.2.2.2.1.length - 1 - i) i 10000 (upd k.1 805 (nI (A.2.1.2.2.2.2.1.length - 1)), k.2) (by omega) (by omega) (Nat.le_refl _) (show upd k.1 805 (nI (A.2.1.2.2.2.2.1.length - 1)) 805 = _ from zud_eq _ _ _)
      (fun j w hj hw => by
        rw [List.getElem?_eraseIdx_of_lt hj] at hw
        exact hk1 j w hw)
      (fun j w _ hw => hk1 j w hw)
    have k3 : ∀ q : Nat, q < 805 → s' q = upd k.1 805 (nI (A.2.1.2.2.2.2.1.length - 1)) q := k3
    have k5 : ∀ q : Nat, q < 805 → s' q = k.1 q := fun q hq => by rw [k3 q hq]; exact zud_ne (by omega)
    obtain ⟨z1, z2, z3, z4, z5, z6, z7⟩ := oz
    obtain ⟨f1, f2, f3, f4, f5, f6, f7, f8⟩ := g2.1
    refine ⟨_, k1, by show some k.2.2.2.2.2.1 = some 0; rw [hth], ⟨zml_reg (c := 0) f1 z1 (fun q a b => k5 q (by omega)), zml_reg (c := 201) f2 (by show A.2.1.2.1.length ≤ 200; omega) (fun q a b => k5 q (by omega)), zml_reg (c := 402) f3 (by show A.2.1.2.2.1.length ≤ 200; omega) (fun q a b => k5 q (by omega)), by show s' 603 = _; rw [k5 603 (by omega)]; exact f4, by show s' 604 = _; rw [k5 604 (by omega)]; exact f5, fun q hq => by show s' (605 + q) = _; rw [k5 _ (by omega)]; exact f6 q hq, ?_, fun j w hw => k4 j w hw⟩, g2.2.1, g2.2.2.1, g2.2.2.2.1, g2.2.2.2.2⟩
    show s' 805 = nI (A.2.1.2.2.2.2.1.eraseIdx i).length
    rw [k2, List.length_eraseIdx, if_pos hi]
end ZMF
