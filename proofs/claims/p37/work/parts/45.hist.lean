/-! ===== the pure part: what the class saves and restores ===== -/
section ZH
/-- sent, received, written, faults, words, shift, unshifts -/
abbrev zNow : Type := List Int32 × List Int32 × List Int32 × List Int32 × List (List Int32) × Int32 × Int32
def zrS (v : zSaved) (S : zNow) : Prop := zr 200 v.1 S.2.2.2.1 ∧ zr 20 v.2.1 (S.2.2.2.2.1.map zpk) ∧ v.2.2 = (nI S.2.2.1.length, nI S.1.length, nI S.2.1.length, S.2.2.2.2.2)
def zrC (v1 : zLine) (v2 : zRow) (S : zNow) : Prop := zrL v1 S.2.2.1 S.1 S.2.1 S.2.2.2.1 S.2.2.2.2.2.1 S.2.2.2.2.2.2 ∧ zr 20 v2 (S.2.2.2.2.1.map zpk)
theorem zh_take {v0 : zSaved} {v1 : zLine} {v2 : zRow} {S : zNow} (h : zrC v1 v2 S) (hu : zbit S.2.2.2.2.2.2) : ∃ r, zf_X6_take 10000 v0 v1 v2 = some r ∧ zrS r S := by
  obtain ⟨⟨h1, h2, h3, h4, h5, h6⟩, h7⟩ := h
  obtain ⟨b1, e1, g1⟩ := zp_copyFrom' (fu := 10000) (N := 200) (v0 := v0.1) (by omega) h4 h4.2.1 (by have := h4.2.1; omega)
  obtain ⟨b2, e2, g2⟩ := zp_copyFrom' (fu := 10000) (N := 20) (v0 := v0.2.1) (by omega) h7 h7.2.1 (by have := h7.2.1; omega)
  unfold zf_X6_take
  rw [e1, Option.bind_some, e2, Option.bind_some, zp_size h1, Option.bind_some, zp_size h2, Option.bind_some, zp_size h3, Option.bind_some, h5, h6, if_pos (show S.2.2.2.2.2.2 = 0 ∨ S.2.2.2.2.2.2 = 1 from hu)]
  exact ⟨_, rfl, g1, g2, rfl⟩
theorem zp_pre {N fu : Nat} {v : zRow} {l p : List Int32} (h : zr N v l) (hp : p <+: l) : ∃ v', zf_X5_shorten fu N v (nI p.length) = some v' ∧ zr N v' p := by
  have := zp_shorten (fu := fu) h hp.length_le
  rw [← List.prefix_iff_eq_take.mp hp] at this
  exact this
/-- an earlier state's lists begin the later's -/
def zpre (S S' : zNow) : Prop := S.1 <+: S'.1 ∧ S.2.1 <+: S'.2.1 ∧ S.2.2.1 <+: S'.2.2.1
theorem zh_give {v0 : zSaved} {v1 : zLine} {v2 : zRow} {S S' : zNow} (h0 : zrS v0 S) (h : zrC v1 v2 S') (hp : zpre S S') (hu : zbit S.2.2.2.2.2.2) : ∃ r, zf_X6_give 10000 v0 v1 v2 = some r ∧ zrC r.1 r.2 S := by
  obtain ⟨⟨h1, h2, h3, h4, h5, h6⟩, h7⟩ := h
  obtain ⟨k1, k2, k3⟩ := h0
  obtain ⟨b1, e1, g1⟩ := zp_copyFrom' (fu := 10000) (N := 200) (v0 := v1.2.2.2.1) (by omega) k1 k1.2.1 (by have := k1.2.1; omega)
  obtain ⟨b2, e2, g2⟩ := zp_copyFrom' (fu := 10000) (N := 20) (v0 := v2) (by omega) k2 k2.2.1 (by have := k2.2.1; omega)
  obtain ⟨b3, e3, g3⟩ := zp_pre (fu := 10000) h1 hp.2.2
  obtain ⟨b4, e4, g4⟩ := zp_pre (fu := 10000) h2 hp.1
  obtain ⟨b5, e5, g5⟩ := zp_pre (fu := 10000) h3 hp.2.1
  unfold zf_X6_give
  rw [k3]
  show ∃ r, ((zf_X5_copyFrom 10000 200 200 v1.2.2.2.1 v0.1).bind fun b1 => (zf_X5_copyFrom 10000 20 20 v2 v0.2.1).bind fun b2 => (zf_X5_shorten 10000 200 v1.1 (nI S.2.2.1.length)).bind fun b3 => (zf_X5_shorten 10000 200 v1.2.1 (nI S.1.length)).bind fun b4 => (zf_X5_shorten 10000 200 v1.2.2.1 (nI S.2.1.length)).bind fun b5 => if S.2.2.2.2.2.2 = 0 ∨ S.2.2.2.2.2.2 = 1 then some ((b3, b4, b5, b1, v1.2.2.2.2.1, S.2.2.2.2.2.1, S.2.2.2.2.2.2), b2) else none) = some r ∧ _
  rw [e1, Option.bind_some, e2, Option.bind_some, e3, Option.bind_some, e4, Option.bind_some, e5, Option.bind_some, if_pos (show S.2.2.2.2.2.2 = 0 ∨ S.2.2.2.2.2.2 = 1 from hu)]
  exact ⟨_, rfl, ⟨g3, g4, g5, g1, rfl, rfl⟩, g2⟩
def zrH (v : zHist) (H : List zNow) : Prop := v.2 = nI H.length ∧ H.length ≤ 6 ∧ ∀ (i : Nat) (S : zNow), H[i]? = some S → zrS (v.1 i) S
def zHs (H : List zNow) (S : zNow) : List zNow := (if H.length = 6 then H.drop 1 else H) ++ [S]
theorem zh_push {v : zHist} {H : List zNow} {S : zNow} {r : zSaved} {k : Nat} (hk : H.length = k) (hk6 : k < 6) (h : ∀ (i : Nat) (S : zNow), H[i]? = some S → zrS (v.1 i) S) (hr : zrS r S) {c : Int32} (hc : c = nI (k + 1)) : zrH (va_up v.1 k r, c) (zHs H S) := by
  unfold zHs
  rw [if_neg (by omega)]
  refine ⟨by show c = _; rw [List.length_append, hk]; exact hc, by rw [List.length_append]; simp only [List.length_cons, List.length_nil]; omega, fun i S' hS => ?_⟩
  show zrS (va_up v.1 k r i) S'
  unfold va_up
  by_cases hi : i = k
  · subst hi
    rw [if_pos rfl]
    rw [List.getElem?_append_right (by omega), hk, Nat.sub_self] at hS
    obtain rfl : S = S' := Option.some.inj hS
    exact hr
  · rw [if_neg hi]
    have hlt := (List.getElem?_eq_some_iff.mp hS).1
    rw [List.length_append] at hlt
    simp only [List.length_cons, List.length_nil] at hlt
    rw [List.getElem?_append_left (by omega)] at hS
    exact h i S' hS
theorem zh_save {v : zHist} {H : List zNow} {v1 : zLine} {v2 : zRow} {S : zNow} (hH : zrH v H) (h : zrC v1 v2 S) (hu : zbit S.2.2.2.2.2.2) : ∃ v', zf_X2_save 10000 v v1 v2 = some v' ∧ zrH v' (zHs H S) := by
  obtain ⟨c1, c2, c3⟩ := hH
  have ne : ∀ a b : Nat, a < 7 → b < 7 → a ≠ b → ¬ nI a = nI b := fun a b ha hb hab e => hab ((nI_eq (by omega) (by omega)).mp e)
  unfold zf_X2_save
  rw [c1]
  have p6 : (6 : Int32) = nI 6 := by decide
  have p0 : (0 : Int32) = nI 0 := by decide
  have p1 : (1 : Int32) = nI 1 := by decide
  have p2 : (2 : Int32) = nI 2 := by decide
  have p3 : (3 : Int32) = nI 3 := by decide
  have p4 : (4 : Int32) = nI 4 := by decide
  have p5 : (5 : Int32) = nI 5 := by decide
  obtain ⟨k, hk⟩ : ∃ k, H.length = k := ⟨_, rfl⟩
  rw [hk] at c2 ⊢
  match k, hk, c2 with
  | 6, hk, _ =>
    obtain ⟨r, e, g⟩ := zh_take (v0 := v.1 0) h hu
    rw [if_pos p6.symm, e, Option.bind_some]
    refine ⟨_, rfl, ?_, ?_, fun i S' hS => ?_⟩
    · unfold zHs; rw [if_pos hk, List.length_append, List.length_drop, hk]; exact p6
    · unfold zHs; rw [if_pos hk, List.length_append, List.length_drop, hk]; exact Nat.le_refl _
    · unfold zHs at hS
      rw [if_pos hk] at hS
      show zrS (if i = 5 then r else v.1 (i + 1)) S'
      by_cases hi : i = 5
      · subst hi
        rw [if_pos rfl]
        rw [List.getElem?_append_right (by rw [List.length_drop]; omega), List.length_drop, hk] at hS
        obtain rfl : S = S' := Option.some.inj hS
        exact g
      · rw [if_neg hi]
        have hlt := (List.getElem?_eq_some_iff.mp hS).1
        rw [List.length_append, List.length_drop, hk] at hlt
        simp only [List.length_cons, List.length_nil] at hlt
        rw [List.getElem?_append_left (by rw [List.length_drop]; omega), List.getElem?_drop, Nat.add_comm] at hS
        exact c3 (i + 1) S' hS
  | 0, hk, _ =>
    obtain ⟨r, e, g⟩ := zh_take (v0 := v.1 0) h hu
    rw [if_neg (by decide), if_pos (by decide), e, Option.bind_some]
    exact ⟨_, rfl, zh_push hk (by omega) c3 g p1⟩
  | 1, hk, _ =>
    obtain ⟨r, e, g⟩ := zh_take (v0 := v.1 1) h hu
    rw [if_neg (by decide), if_neg (by decide), if_pos (by decide), e, Option.bind_some]
    exact ⟨_, rfl, zh_push hk (by omega) c3 g p2⟩
  | 2, hk, _ =>
    obtain ⟨r, e, g⟩ := zh_take (v0 := v.1 2) h hu
    rw [if_neg (by decide), if_neg (by decide), if_neg (by decide), if_pos (by decide), e, Option.bind_some]
    exact ⟨_, rfl, zh_push hk (by omega) c3 g p3⟩
  | 3, hk, _ =>
    obtain ⟨r, e, g⟩ := zh_take (v0 := v.1 3) h hu
    rw [if_neg (by decide), if_neg (by decide), if_neg (by decide), if_neg (by decide), if_pos (by decide), e, Option.bind_some]
    exact ⟨_, rfl, zh_push hk (by omega) c3 g p4⟩
  | 4, hk, _ =>
    obtain ⟨r, e, g⟩ := zh_take (v0 := v.1 4) h hu
    rw [if_neg (by decide), if_neg (by decide), if_neg (by decide), if_neg (by decide), if_neg (by decide), if_pos (by decide), e, Option.bind_some]
    exact ⟨_, rfl, zh_push hk (by omega) c3 g p5⟩
  | 5, hk, _ =>
    obtain ⟨r, e, g⟩ := zh_take (v0 := v.1 5) h hu
    rw [if_neg (by decide), if_neg (by decide), if_neg (by decide), if_neg (by decide), if_neg (by decide), if_neg (by decide), if_pos (by decide), e, Option.bind_some]
    exact ⟨_, rfl, zh_push hk (by omega) c3 g p6⟩
  | k + 7, hk, c2 => exact absurd c2 (by omega)
theorem zh_restore {v : zHist} {H0 : List zNow} {v1 : zLine} {v2 : zRow} {S S' : zNow} (hH : zrH v (H0 ++ [S])) (h : zrC v1 v2 S') (hp : zpre S S') (hu : zbit S.2.2.2.2.2.2) : ∃ r, zf_X2_restore 10000 v v1 v2 = some r ∧ zrH r.1 H0 ∧ zrC r.2.1 r.2.2 S := by
  obtain ⟨c1, c2, c3⟩ := hH
  rw [List.length_append] at c1 c2
  simp only [List.length_cons, List.length_nil] at c1 c2
  have hS : (H0 ++ [S])[H0.length]? = some S := by simp
  obtain ⟨r, e, g⟩ := zh_give (c3 _ S hS) h hp hu
  have hH0 : ∀ (i : Nat) (T : zNow), H0[i]? = some T → zrS (v.1 i) T := fun i T hT => c3 i T (by
    have := (List.getElem?_eq_some_iff.mp hT).1
    rw [List.getElem?_append_left this]; exact hT)
  unfold zf_X2_restore
  rw [c1]
  obtain ⟨k, hk⟩ : ∃ k, H0.length = k := ⟨_, rfl⟩
  rw [hk] at c2 e ⊢
  match k, hk, c2, e with
  | 0, hk, _, e =>
    rw [if_pos (by decide), e, Option.bind_some]
    exact ⟨_, rfl, ⟨by rw [hk]; show (0 : Int32) = nI 0; decide, by omega, hH0⟩, g⟩
  | 1, hk, _, e =>
    rw [if_neg (by decide), if_pos (by decide), e, Option.bind_some]
    exact ⟨_, rfl, ⟨by rw [hk]; show (1 : Int32) = nI 1; decide, by omega, hH0⟩, g⟩
  | 2, hk, _, e =>
    rw [if_neg (by decide), if_neg (by decide), if_pos (by decide), e, Option.bind_some]
    exact ⟨_, rfl, ⟨by rw [hk]; show (2 : Int32) = nI 2; decide, by omega, hH0⟩, g⟩
  | 3, hk, _, e =>
    rw [if_neg (by decide), if_neg (by decide), if_neg (by decide), if_pos (by decide), e, Option.bind_some]
    exact ⟨_, rfl, ⟨by rw [hk]; show (3 : Int32) = nI 3; decide, by omega, hH0⟩, g⟩
  | 4, hk, _, e =>
    rw [if_neg (by decide), if_neg (by decide), if_neg (by decide), if_neg (by decide), if_pos (by decide), e, Option.bind_some]
    exact ⟨_, rfl, ⟨by rw [hk]; show (4 : Int32) = nI 4; decide, by omega, hH0⟩, g⟩
  | 5, hk, _, e =>
    rw [if_neg (by decide), if_neg (by decide), if_neg (by decide), if_neg (by decide), if_neg (by decide), if_pos (by decide), e, Option.bind_some]
    exact ⟨_, rfl, ⟨by rw [hk]; show (5 : Int32) = nI 5; decide, by omega, hH0⟩, g⟩
  | k + 6, hk, c2, e => exact absurd c2 (by omega)
end ZH
