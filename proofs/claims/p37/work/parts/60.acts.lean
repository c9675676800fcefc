/-! ===== the pure part: the law's helpers over lists; what acts does depends on the line, the words and the saved states alone ===== -/
section ZLA
theorem z20 : ¬ (2 : Int32) = 0 := by decide
theorem z21 : ¬ (2 : Int32) = 1 := by decide
/-- a helper's answer: its call's, or a number for each throw -/
def zhr (c x e1 e2 : Int32) : Int32 := if c = 0 then x else if c = 1 then e1 else e2
theorem zhr_1 (x e1 e2 : Int32) : zhr 1 x e1 e2 = e1 := (if_neg z10).trans (if_pos rfl)
theorem zhr_2 (x e1 e2 : Int32) : zhr 2 x e1 e2 = e2 := (if_neg z20).trans (if_neg z21)
theorem zhr_0 (x e1 e2 : Int32) : zhr 0 x e1 e2 = x := if_pos rfl
theorem zh_2 {X : Option (Int32 × Int32 × zTR)} {c x : Int32} {v' : zTR} (hX : X = some (c, x, v')) (hc : c = 0 ∨ c = 1 ∨ c = 2) (e1 e2 : Int32) : (X.bind fun b => if b.1 = 0 then some (b.2.1, b.2.2) else if b.1 = 1 then some (e1, b.2.2) else if b.1 = 2 then some (e2, b.2.2) else none) = some (zhr c x e1 e2, v') := by
  rw [hX, Option.bind_some]
  rcases hc with rfl | rfl | rfl
  · rw [zhr_0]
    exact if_pos rfl
  · rw [zhr_1]
    exact (if_neg z10).trans (if_pos rfl)
  · rw [zhr_2]
    exact (if_neg z20).trans ((if_neg z21).trans (if_pos rfl))
theorem zh_1 {X : Option (Int32 × Int32 × zTR)} {c x : Int32} {v' : zTR} (hX : X = some (c, x, v')) (hc : c = 0 ∨ c = 1) (e1 : Int32) : (X.bind fun b => if b.1 = 0 then some (b.2.1, b.2.2) else if b.1 = 1 then some (e1, b.2.2) else none) = some (zhr c x e1 0, v') := by
  rw [hX, Option.bind_some]
  rcases hc with rfl | rfl
  · rw [zhr_0]
    exact if_pos rfl
  · rw [zhr_1]
    exact (if_neg z10).trans (if_pos rfl)
theorem aApp_k (A : zAb) (c : Int32) : (aApp A c).1 = 0 ∨ (aApp A c).1 = 1 ∨ (aApp A c).1 = 2 := by
  unfold aApp
  by_cases h1 : zcode c = -1
  · rw [if_pos h1]; exact Or.inr (Or.inl rfl)
  · rw [if_neg h1]
    by_cases h2 : A.1.length < 60
    · rw [if_pos h2]; exact Or.inl rfl
    · rw [if_neg h2]; exact Or.inr (Or.inr rfl)
theorem aSnd_k (A : zAb) : (aSnd A).1 = 0 ∨ (aSnd A).1 = 1 := by
  unfold aSnd
  by_cases h1 : A.1 = []
  · rw [if_pos h1]; exact Or.inr rfl
  · rw [if_neg h1]
    by_cases h2 : A.2.1.1.length + (aNeed A).length ≤ 200
    · rw [if_pos h2]; exact Or.inl rfl
    · rw [if_neg h2]; exact Or.inr rfl
theorem aFlt_k (A : zAb) (a f : Int32) : (aFlt A a f).1 = 0 ∨ (aFlt A a f).1 = 1 ∨ (aFlt A a f).1 = 2 := by
  cases e : zin a 200 with
  | none => rw [aFlt_n e]; exact Or.inr (Or.inl rfl)
  | some i =>
    by_cases h : f < -1 ∨ 5 < f
    · rw [aFlt_b e h]; exact Or.inr (Or.inr rfl)
    · rw [aFlt_s e h]; exact Or.inl rfl
theorem aLrn_k (A : zAb) : (aLrn A).1 = 0 ∨ (aLrn A).1 = 1 ∨ (aLrn A).1 = 2 := by
  unfold aLrn
  by_cases h1 : ¬ (A.1.length ≤ 6 ∧ A.1.all zlet0 = true) ∨ A.1 = []
  · rw [if_pos h1]; exact Or.inr (Or.inl rfl)
  · rw [if_neg h1]
    by_cases h2 : A.1.map zcode ∈ A.2.1.2.2.2.2.1
    · rw [if_pos h2]; exact Or.inl rfl
    · rw [if_neg h2]
      by_cases h3 : A.2.1.2.2.2.2.1.length < 20
      · rw [if_pos h3]; exact Or.inl rfl
      · rw [if_neg h3]; exact Or.inr (Or.inr rfl)
theorem aFgt_k (A : zAb) (a : Int32) : (aFgt A a).1 = 0 ∨ (aFgt A a).1 = 1 := by
  cases e : zin a A.2.1.2.2.2.2.1.length with
  | none => rw [aFgt_n e]; exact Or.inr rfl
  | some i => rw [aFgt_s e]; exact Or.inl rfl
theorem aUnd_k (A : zAb) : (aUnd A).1 = 0 ∨ (aUnd A).1 = 1 := by
  rcases zlast (H := A.2.2) with hn | ⟨H0, S, hn⟩
  · rw [aUnd_n hn]; exact Or.inr rfl
  · rw [aUnd_s hn]; exact Or.inl rfl
/-- a program that takes the lists A to A', and answers r, whatever receiver holds them -/
def zD (f : zTR → Option (Int32 × zTR)) (A : zAb) (r : Int32) (A' : zAb) : Prop := ∀ v : zTR, zcR v A → zok A → ∃ v', f v = some (r, v') ∧ zcR v' A' ∧ zok A'
theorem zD_app (A : zAb) (c : Int32) : zD (fun v => zf_L_append 10000 v c) A (zhr (aApp A c).1 (aApp A c).2.1 (-2) (-3)) (aApp A c).2.2 := by
  intro v h hk
  obtain ⟨v', e, g⟩ := ck_app h c
  exact ⟨v', zh_2 e (aApp_k A c) _ _, g, ok_app hk c⟩
theorem zD_snd (A : zAb) : zD (fun v => zf_L_send 10000 v) A (zhr (aSnd A).1 (aSnd A).2.1 (-2) 0) (aSnd A).2.2 := by
  intro v h hk
  obtain ⟨v', e, g⟩ := ck_snd h hk
  exact ⟨v', zh_1 e (aSnd_k A) _, g, ok_snd hk⟩
theorem zD_flt (A : zAb) (a f : Int32) : zD (fun v => zf_L_setFault 10000 v a f) A (zhr (aFlt A a f).1 (aFlt A a f).2.1 (-3) (-2)) (aFlt A a f).2.2 := by
  intro v h hk
  obtain ⟨v', e, g⟩ := ck_flt h hk a f
  exact ⟨v', zh_2 e (aFlt_k A a f) _ _, g, ok_flt hk a f⟩
theorem zD_lrn (A : zAb) : zD (fun v => zf_L_learn 10000 v) A (zhr (aLrn A).1 (aLrn A).2.1 (-2) (-3)) (aLrn A).2.2 := by
  intro v h hk
  obtain ⟨v', e, g⟩ := ck_lrn h hk
  exact ⟨v', zh_2 e (aLrn_k A) _ _, g, ok_lrn hk⟩
theorem zD_fgt (A : zAb) (a : Int32) : zD (fun v => zf_L_forget 10000 v a) A (zhr (aFgt A a).1 (aFgt A a).2.1 (-2) 0) (aFgt A a).2.2 := by
  intro v h hk
  obtain ⟨v', e, g⟩ := ck_fgt h hk a
  exact ⟨v', zh_1 e (aFgt_k A a) _, g, ok_fgt hk a⟩
theorem zD_und (A : zAb) : zD (fun v => zf_L_undo 10000 v) A (zhr (aUnd A).1 (aUnd A).2.1 (-2) 0) (aUnd A).2.2 := by
  intro v h hk
  obtain ⟨v', e, g⟩ := ck_und h hk
  exact ⟨v', zh_1 e (aUnd_k A) _, g, ok_und hk⟩
theorem zD_clr (A : zAb) : zD (fun v => zf_X7_clearBuffer 10000 v) A (nI A.1.length) ([], A.2) := by
  intro v h hk
  obtain ⟨v', e, g⟩ := ck_clr h
  exact ⟨v', e, g, ok_clr hk⟩
theorem zD_uns (A : zAb) {u : Int32} (hu : zbit u) : zD (fun v => zf_X7_unshiftOnSpace 10000 v u) A (aUns A u).1 (aUns A u).2 := by
  intro v h hk
  obtain ⟨v', e, g⟩ := ck_uns h hk hu
  exact ⟨v', e, g, ok_uns hk hu⟩
/-- appends, then learn -/
theorem zD_L127 {y2 : Int32} {m : Nat} (hy : (1 : Int32) + (y2 - y2 / 3 * 3) = nI m) (hm : m < 200) : ∀ (d i n : Nat) (y3 : Int32) (A : zAb), i + d = m → d < n → ∃ (r : Int32) (A' : zAb), zD (fun v => zf_L_acts_L127 10000 250 n y2 y3 (nI i) v) A r A'
  | d, i, 0, y3, A, hd, hn => absurd hn (Nat.not_lt_zero _)
  | 0, i, n + 1, y3, A, hd, hn => by
    by_cases h3 : 0 ≤ y3
    · refine ⟨zhr (aLrn A).1 (aLrn A).2.1 (-2) (-3), (aLrn A).2.2, fun v h hk => ?_⟩
      obtain ⟨v', e, g⟩ := zD_lrn A v h hk
      refine ⟨v', ?_, g⟩
      show zf_L_acts_L127 10000 250 (n + 1) y2 y3 (nI i) v = _
      unfold zf_L_acts_L127
      rw [hy, if_pos (nI_le (by omega) (by omega)), if_pos h3]
      exact zh_bd e rfl
    · refine ⟨-9, A, fun v h hk => ⟨v, ?_, h, hk⟩⟩
      show zf_L_acts_L127 10000 250 (n + 1) y2 y3 (nI i) v = _
      unfold zf_L_acts_L127
      rw [hy, if_pos (nI_le (by omega) (by omega)), if_neg h3]
  | d + 1, i, n + 1, y3, A, hd, hn => by
    obtain ⟨r, A', ih⟩ := zD_L127 hy hm d (i + 1) n (zhr (aApp A ((97 : Int32) + (((y2 / 4) >>> (((2 : Int32) * nI i) &&& 31)) - ((y2 / 4) >>> (((2 : Int32) * nI i) &&& 31)) / 3 * 3))).1 (aApp A ((97 : Int32) + (((y2 / 4) >>> (((2 : Int32) * nI i) &&& 31)) - ((y2 / 4) >>> (((2 : Int32) * nI i) &&& 31)) / 3 * 3))).2.1 (-2) (-3)) (aApp A ((97 : Int32) + (((y2 / 4) >>> (((2 : Int32) * nI i) &&& 31)) - ((y2 / 4) >>> (((2 : Int32) * nI i) &&& 31)) / 3 * 3))).2.2 (by omega) (by omega)
    refine ⟨r, A', fun v h hk => ?_⟩
    obtain ⟨v1, e1, g1, k1⟩ := zD_app A ((97 : Int32) + (((y2 / 4) >>> (((2 : Int32) * nI i) &&& 31)) - ((y2 / 4) >>> (((2 : Int32) * nI i) &&& 31)) / 3 * 3)) v h hk
    obtain ⟨v', e, g⟩ := ih v1 g1 k1
    refine ⟨v', ?_, g⟩
    show zf_L_acts_L127 10000 250 (n + 1) y2 y3 (nI i) v = _
    unfold zf_L_acts_L127
    rw [hy, if_neg (nI_ge (by omega) (by omega))]
    refine zh_bd e1 (zh_let ?_)
    rw [nI_1]
    exact e
theorem zD_L127' {y2 : Int32} {m : Nat} (hy : (1 : Int32) + (y2 - y2 / 3 * 3) = nI m) (h0 : 0 < m) (hm : m < 200) (A : zAb) : ∃ (r : Int32) (A' : zAb), ∀ y3 : Int32, zD (fun v => zf_L_acts_L127 10000 250 250 y2 y3 0 v) A r A' := by
  obtain ⟨r, A', ih⟩ := zD_L127 hy hm (m - 1) 1 249 (zhr (aApp A ((97 : Int32) + (((y2 / 4) >>> (((2 : Int32) * 0) &&& 31)) - ((y2 / 4) >>> (((2 : Int32) * 0) &&& 31)) / 3 * 3))).1 (aApp A ((97 : Int32) + (((y2 / 4) >>> (((2 : Int32) * 0) &&& 31)) - ((y2 / 4) >>> (((2 : Int32) * 0) &&& 31)) / 3 * 3))).2.1 (-2) (-3)) (aApp A ((97 : Int32) + (((y2 / 4) >>> (((2 : Int32) * 0) &&& 31)) - ((y2 / 4) >>> (((2 : Int32) * 0) &&& 31)) / 3 * 3))).2.2 (by omega) (by omega)
  refine ⟨r, A', fun y3 v h hk => ?_⟩
  obtain ⟨v1, e1, g1, k1⟩ := zD_app A ((97 : Int32) + (((y2 / 4) >>> (((2 : Int32) * 0) &&& 31)) - ((y2 / 4) >>> (((2 : Int32) * 0) &&& 31)) / 3 * 3)) v h hk
  obtain ⟨v', e, g⟩ := ih v1 g1 k1
  refine ⟨v', ?_, g⟩
  show zf_L_acts_L127 10000 250 (249 + 1) y2 y3 0 v = _
  unfold zf_L_acts_L127
  rw [hy, if_neg (show ¬ nI m ≤ 0 from nI_nle h0 (by omega))]
  refine zh_bd e1 (zh_let ?_)
  rw [show (0 : Int32) + 1 = nI 1 by decide]
  exact e
/-- appends, then send -/
theorem zD_b307 {f : zTR → Option (Int32 × zTR)} {rec198 : Int32 → Int32 → Int32 → zTR → Option (Int32 × zTR)} {y2 y5 z : Int32} {A A' : zAb} {r : Int32} (ih : zD (fun v => rec198 y2 (zhr (aApp A z).1 (aApp A z).2.1 (-2) (-3)) (y5 + 1) v) (aApp A z).2.2 r A') : zD (fun v => zf_L_acts_b307 10000 250 rec198 y2 y5 z v) A r A' := by
  intro v h hk
  obtain ⟨v1, e1, g1, k1⟩ := zD_app A z v h hk
  obtain ⟨v', e, g⟩ := ih v1 g1 k1
  refine ⟨v', ?_, g⟩
  show zf_L_acts_b307 10000 250 rec198 y2 y5 z v = _
  unfold zf_L_acts_b307
  exact zh_bd e1 (zh_let e)
/-- the character of a step -/
def zD_c (y2 y5 : Int32) : Int32 := if 7 ≤ ((y2 / 8) >>> (((2 : Int32) * y5) &&& 31)) - ((y2 / 8) >>> (((2 : Int32) * y5) &&& 31)) / 16 * 16 then (if 10 ≤ ((y2 / 8) >>> (((2 : Int32) * y5) &&& 31)) - ((y2 / 8) >>> (((2 : Int32) * y5) &&& 31)) / 16 * 16 then (if 13 ≤ ((y2 / 8) >>> (((2 : Int32) * y5) &&& 31)) - ((y2 / 8) >>> (((2 : Int32) * y5) &&& 31)) / 16 * 16 then (if ((y2 / 8) >>> (((2 : Int32) * y5) &&& 31)) - ((y2 / 8) >>> (((2 : Int32) * y5) &&& 31)) / 16 * 16 = 13 then 64 else if ((y2 / 8) >>> (((2 : Int32) * y5) &&& 31)) - ((y2 / 8) >>> (((2 : Int32) * y5) &&& 31)) / 16 * 16 = 14 then 35 else 10) else 32) else ((48 : Int32) + ((((y2 / 8) >>> (((2 : Int32) * y5) &&& 31)) / 16) - (((y2 / 8) >>> (((2 : Int32) * y5) &&& 31)) / 16) / 10 * 10))) else ((97 : Int32) + ((((y2 / 8) >>> (((2 : Int32) * y5) &&& 31)) / 16) - (((y2 / 8) >>> (((2 : Int32) * y5) &&& 31)) / 16) / 3 * 3))
theorem zD_step {y2 : Int32} {m : Nat} (hy : (1 : Int32) + (y2 - y2 / 8 * 8) = nI m) {y5 : Int32} (h5 : ¬ nI m ≤ y5) (n : Nat) (y4 : Int32) (v : zTR) : zf_L_acts_L198 10000 250 (n + 1) y2 y4 y5 v = zf_L_acts_b307 10000 250 (zf_L_acts_L198 10000 250 n) y2 y5 (zD_c y2 y5) v := by
  rw [zf_L_acts_L198, hy, if_neg h5, zlet_eq, zlet_eq]
  unfold zD_c
  by_cases h1 : 7 ≤ ((y2 / 8) >>> (((2 : Int32) * y5) &&& 31)) - ((y2 / 8) >>> (((2 : Int32) * y5) &&& 31)) / 16 * 16
  · rw [if_pos h1, if_pos h1]
    by_cases h2 : 10 ≤ ((y2 / 8) >>> (((2 : Int32) * y5) &&& 31)) - ((y2 / 8) >>> (((2 : Int32) * y5) &&& 31)) / 16 * 16
    · rw [if_pos h2, if_pos h2]
      by_cases h3 : 13 ≤ ((y2 / 8) >>> (((2 : Int32) * y5) &&& 31)) - ((y2 / 8) >>> (((2 : Int32) * y5) &&& 31)) / 16 * 16
      · rw [if_pos h3, if_pos h3]
        by_cases h4 : ((y2 / 8) >>> (((2 : Int32) * y5) &&& 31)) - ((y2 / 8) >>> (((2 : Int32) * y5) &&& 31)) / 16 * 16 = 13
        · rw [if_pos h4, if_pos h4]
        · rw [if_neg h4, if_neg h4]
          by_cases h6 : ((y2 / 8) >>> (((2 : Int32) * y5) &&& 31)) - ((y2 / 8) >>> (((2 : Int32) * y5) &&& 31)) / 16 * 16 = 14
          · rw [if_pos h6, if_pos h6]
          · rw [if_neg h6, if_neg h6]
      · rw [if_neg h3, if_neg h3]
    · rw [if_neg h2, if_neg h2]
  · rw [if_neg h1, if_neg h1]
theorem zD_L198 {y2 : Int32} {m : Nat} (hy : (1 : Int32) + (y2 - y2 / 8 * 8) = nI m) (hm : m < 200) : ∀ (d i n : Nat) (y4 : Int32) (A : zAb), i + d = m → d < n → ∃ (r : Int32) (A' : zAb), zD (fun v => zf_L_acts_L198 10000 250 n y2 y4 (nI i) v) A r A'
  | d, i, 0, y4, A, hd, hn => absurd hn (Nat.not_lt_zero _)
  | 0, i, n + 1, y4, A, hd, hn => by
    by_cases h3 : 0 ≤ y4
    · refine ⟨zhr (aSnd A).1 (aSnd A).2.1 (-2) 0, (aSnd A).2.2, fun v h hk => ?_⟩
      obtain ⟨v', e, g⟩ := zD_snd A v h hk
      refine ⟨v', ?_, g⟩
      show zf_L_acts_L198 10000 250 (n + 1) y2 y4 (nI i) v = _
      unfold zf_L_acts_L198
      rw [hy, if_pos (nI_le (by omega) (by omega)), if_pos h3]
      exact zh_bd e rfl
    · refine ⟨-9, A, fun v h hk => ⟨v, ?_, h, hk⟩⟩
      show zf_L_acts_L198 10000 250 (n + 1) y2 y4 (nI i) v = _
      unfold zf_L_acts_L198
      rw [hy, if_pos (nI_le (by omega) (by omega)), if_neg h3]
  | d + 1, i, n + 1, y4, A, hd, hn => by
    obtain ⟨r, A', ih⟩ := zD_L198 hy hm d (i + 1) n (zhr (aApp A (zD_c y2 (nI i))).1 (aApp A (zD_c y2 (nI i))).2.1 (-2) (-3)) (aApp A (zD_c y2 (nI i))).2.2 (by omega) (by omega)
    rw [← nI_1] at ih
    have key := zD_b307 (f := fun v => some (0, v)) (rec198 := zf_L_acts_L198 10000 250 n) ih
    refine ⟨r, A', fun v h hk => ?_⟩
    obtain ⟨v', e, g⟩ := key v h hk
    exact ⟨v', (zD_step hy (nI_ge (by omega) (by omega)) n y4 v).trans e, g⟩
theorem zD_L198' {y2 : Int32} {m : Nat} (hy : (1 : Int32) + (y2 - y2 / 8 * 8) = nI m) (h0 : 0 < m) (hm : m < 200) (A : zAb) : ∃ (r : Int32) (A' : zAb), ∀ y4 : Int32, zD (fun v => zf_L_acts_L198 10000 250 250 y2 y4 0 v) A r A' := by
  obtain ⟨r, A', ih⟩ := zD_L198 hy hm (m - 1) 1 249 (zhr (aApp A (zD_c y2 0)).1 (aApp A (zD_c y2 0)).2.1 (-2) (-3)) (aApp A (zD_c y2 0)).2.2 (by omega) (by omega)
  rw [show nI 1 = (0 : Int32) + 1 by decide] at ih
  have key := zD_b307 (f := fun v => some (0, v)) (rec198 := zf_L_acts_L198 10000 250 249) ih
  refine ⟨r, A', fun y4 v h hk => ?_⟩
  obtain ⟨v', e, g⟩ := key v h hk
  exact ⟨v', (zD_step hy (show ¬ nI m ≤ 0 from nI_nle h0 (by omega)) 249 y4 v).trans e, g⟩
/-- a program whose answer and whose lists behind the buffer depend on the lists behind the buffer alone -/
def zE (f : zTR → Option (Int32 × zTR)) (T : zNow × List zNow) : Prop := ∃ (r : Int32) (T' : zNow × List zNow), ∀ (v : zTR) (A : zAb), A.2 = T → zcR v A → zok A → ∃ (v' : zTR) (A' : zAb), f v = some (r, v') ∧ zcR v' A' ∧ zok A' ∧ A'.2 = T'
theorem zE_if {c : Prop} [Decidable c] {f g : zTR → Option (Int32 × zTR)} {T : zNow × List zNow} (h1 : c → zE f T) (h2 : ¬ c → zE g T) : zE (fun v => if c then f v else g v) T := by
  by_cases h : c
  · obtain ⟨r, T', k⟩ := h1 h
    exact ⟨r, T', fun v A hA hv hk => by
      obtain ⟨v', A', e, g⟩ := k v A hA hv hk
      exact ⟨v', A', (if_pos h).trans e, g⟩⟩
  · obtain ⟨r, T', k⟩ := h2 h
    exact ⟨r, T', fun v A hA hv hk => by
      obtain ⟨v', A', e, g⟩ := k v A hA hv hk
      exact ⟨v', A', (if_neg h).trans e, g⟩⟩
theorem zE_uns (T : zNow × List zNow) {u : Int32} (hu : zbit u) : zE (fun v => zf_L_acts_b88 10000 250 u v) T := by
  refine ⟨if T.1.2.2.2.2.2.2 = 0 then 0 else 1, (zSetU T.1 u, zHs T.2 T.1), fun v A hA hv hk => ?_⟩
  obtain ⟨v', e, g, k⟩ := zD_uns A hu v hv hk
  subst hA
  refine ⟨v', _, ?_, g, k, rfl⟩
  show zf_L_acts_b88 10000 250 u v = _
  unfold zf_L_acts_b88
  refine zh_bd e ?_
  show (if A.2.1.2.2.2.2.2.2 = 0 then some ((0 : Int32), v') else some (1, v')) = some (if A.2.1.2.2.2.2.2.2 = 0 then 0 else 1, v')
  split <;> rfl
theorem zE_flt (T : zNow × List zNow) (a f : Int32) : zE (fun v => (zf_L_setFault 10000 v a f).bind fun r => some (r.1, r.2)) T := by
  have key : ∀ b : List Int32, (aFlt (b, T) a f).1 = (aFlt ([], T) a f).1 ∧ (aFlt (b, T) a f).2.1 = (aFlt ([], T) a f).2.1 ∧ (aFlt (b, T) a f).2.2.2 = (aFlt ([], T) a f).2.2.2 := by
    intro b
    cases e : zin a 200 with
    | none => rw [aFlt_n e, aFlt_n e]; exact ⟨rfl, rfl, rfl⟩
    | some i =>
      by_cases h : f < -1 ∨ 5 < f
      · rw [aFlt_b e h, aFlt_b e h]; exact ⟨rfl, rfl, rfl⟩
      · rw [aFlt_s e h, aFlt_s e h]; exact ⟨rfl, rfl, rfl⟩
  refine ⟨zhr (aFlt ([], T) a f).1 (aFlt ([], T) a f).2.1 (-3) (-2), (aFlt ([], T) a f).2.2.2, fun v A hA hv hk => ?_⟩
  obtain ⟨b, T2⟩ := A
  have hA : T2 = T := hA
  subst hA
  obtain ⟨v', e, g, k⟩ := zD_flt (b, T2) a f v hv hk
  obtain ⟨k1, k2, k3⟩ := key b
  rw [k1, k2] at e
  exact ⟨v', _, zh_bd e rfl, g, k, k3⟩
theorem zE_fgt (T : zNow × List zNow) (a : Int32) : zE (fun v => (zf_L_forget 10000 v a).bind fun r => some (r.1, r.2)) T := by
  have key : ∀ b : List Int32, (aFgt (b, T) a).1 = (aFgt ([], T) a).1 ∧ (aFgt (b, T) a).2.1 = (aFgt ([], T) a).2.1 ∧ (aFgt (b, T) a).2.2.2 = (aFgt ([], T) a).2.2.2 := by
    intro b
    cases e : zin a T.1.2.2.2.2.1.length with
    | none => rw [aFgt_n (A := (b, T)) e, aFgt_n (A := ([], T)) e]; exact ⟨rfl, rfl, rfl⟩
    | some i => rw [aFgt_s (A := (b, T)) e, aFgt_s (A := ([], T)) e]; exact ⟨rfl, rfl, rfl⟩
  refine ⟨zhr (aFgt ([], T) a).1 (aFgt ([], T) a).2.1 (-2) 0, (aFgt ([], T) a).2.2.2, fun v A hA hv hk => ?_⟩
  obtain ⟨b, T2⟩ := A
  have hA : T2 = T := hA
  subst hA
  obtain ⟨v', e, g, k⟩ := zD_fgt (b, T2) a v hv hk
  obtain ⟨k1, k2, k3⟩ := key b
  rw [k1, k2] at e
  exact ⟨v', _, zh_bd e rfl, g, k, k3⟩
theorem zE_und (T : zNow × List zNow) : zE (fun v => (zf_L_undo 10000 v).bind fun r => some (r.1, r.2)) T := by
  have key : ∀ b : List Int32, (aUnd (b, T)).1 = (aUnd ([], T)).1 ∧ (aUnd (b, T)).2.1 = (aUnd ([], T)).2.1 ∧ (aUnd (b, T)).2.2.2 = (aUnd ([], T)).2.2.2 := by
    intro b
    rcases zlast (H := T.2) with hn | ⟨H0, S, hn⟩
    · rw [aUnd_n (A := (b, T)) hn, aUnd_n (A := ([], T)) hn]; exact ⟨rfl, rfl, rfl⟩
    · rw [aUnd_s (A := (b, T)) hn, aUnd_s (A := ([], T)) hn]; exact ⟨rfl, rfl, rfl⟩
  refine ⟨zhr (aUnd ([], T)).1 (aUnd ([], T)).2.1 (-2) 0, (aUnd ([], T)).2.2.2, fun v A hA hv hk => ?_⟩
  obtain ⟨b, T2⟩ := A
  have hA : T2 = T := hA
  subst hA
  obtain ⟨v', e, g, k⟩ := zD_und (b, T2) v hv hk
  obtain ⟨k1, k2, k3⟩ := key b
  rw [k1, k2] at e
  exact ⟨v', _, zh_bd e rfl, g, k, k3⟩
theorem zE_clr {T : zNow × List zNow} {g : Int32 → zTR → Option (Int32 × zTR)} (hg : ∃ (r : Int32) (A' : zAb), ∀ y : Int32, zD (g y) ([], T) r A') : zE (fun v => (zf_X7_clearBuffer 10000 v).bind fun r => g r.1 r.2) T := by
  obtain ⟨r, A', hg⟩ := hg
  refine ⟨r, A'.2, fun v A hA hv hk => ?_⟩
  obtain ⟨v1, e1, g1, k1⟩ := zD_clr A v hv hk
  rw [hA] at g1 k1
  obtain ⟨v', e, g2, k2⟩ := hg (nI A.1.length) v1 g1 k1
  exact ⟨v', A', zh_bd e1 e, g2, k2, rfl⟩
theorem zE_acts (T : zNow × List zNow) {j : Nat} (hj : j < 2 ^ 31) : zE (fun v => zf_L_acts 10000 250 v (nI j)) T := by
  have hx : nI j / 32 = nI (j / 32) := by rw [show (32 : Int32) = nI 32 from by decide, pk_div hj (by omega) (by omega)]
  have hj2 : j / 32 < 2 ^ 31 := by omega
  have m3 : (1 : Int32) + (nI j / 32 - nI j / 32 / 3 * 3) = nI (1 + j / 32 % 3) := by
    rw [hx, show (3 : Int32) = nI 3 from by decide, pk_rem hj2 (by omega) (by omega), show (1 : Int32) = nI 1 from by decide, nI_add]
  have m8 : (1 : Int32) + (nI j / 32 - nI j / 32 / 8 * 8) = nI (1 + j / 32 % 8) := by
    rw [hx, show (8 : Int32) = nI 8 from by decide, pk_rem hj2 (by omega) (by omega), show (1 : Int32) = nI 1 from by decide, nI_add]
  have hL : zE (fun v => (zf_X7_clearBuffer 10000 v).bind fun r => zf_L_acts_L127 10000 250 250 (nI j / 32) r.1 0 r.2) T := zE_clr (g := fun y v => zf_L_acts_L127 10000 250 250 (nI j / 32) y 0 v) (zD_L127' m3 (by omega) (by omega) _)
  have hS : zE (fun v => (zf_X7_clearBuffer 10000 v).bind fun r => zf_L_acts_L198 10000 250 250 (nI j / 32) r.1 0 r.2) T := zE_clr (g := fun y v => zf_L_acts_L198 10000 250 250 (nI j / 32) y 0 v) (zD_L198' m8 (by omega) (by omega) _)
  have hU : zE (fun v => if (nI j / 32 - nI j / 32 / 2 * 2) = 0 then zf_L_acts_b88 10000 250 1 v else zf_L_acts_b88 10000 250 0 v) T := zE_if (fun _ => zE_uns T (Or.inr rfl)) (fun _ => zE_uns T (Or.inl rfl))
  unfold zf_L_acts
  simp only [zlet_eq]
  refine zE_if (fun _ => hU) (fun _ => ?_)
  refine zE_if (fun _ => hU) (fun _ => ?_)
  refine zE_if (fun _ => zE_flt T _ _) (fun _ => ?_)
  refine zE_if (fun _ => zE_flt T _ _) (fun _ => ?_)
  refine zE_if (fun _ => zE_flt T _ _) (fun _ => ?_)
  refine zE_if (fun _ => zE_flt T _ _) (fun _ => ?_)
  refine zE_if (fun _ => hL) (fun _ => ?_)
  refine zE_if (fun _ => hL) (fun _ => ?_)
  refine zE_if (fun _ => hL) (fun _ => ?_)
  refine zE_if (fun _ => hL) (fun _ => ?_)
  refine zE_if (fun _ => zE_fgt T _) (fun _ => ?_)
  refine zE_if (fun _ => zE_und T) (fun _ => ?_)
  refine zE_if (fun _ => zE_und T) (fun _ => ?_)
  exact hS
end ZLA
