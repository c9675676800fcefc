/-! ===== the pure part: the class's calls over lists, on ===== -/
section ZK2
/-- an index among n things -/
def zin (a : Int32) (n : Nat) : Option Nat := if a < 0 then none else if a.toNatClampNeg < n then some a.toNatClampNeg else none
theorem zin_cases (a : Int32) {n : Nat} (hn : n < 2 ^ 30) : (zin a n = none ∧ (a < 0 ∨ ∃ i : Nat, n ≤ i ∧ i < 2 ^ 31 ∧ a = nI i)) ∨ ∃ i : Nat, i < n ∧ a = nI i ∧ zin a n = some i := by
  unfold zin
  by_cases h : a < 0
  · rw [if_pos h]; exact Or.inl ⟨rfl, Or.inl h⟩
  · rw [if_neg h]
    obtain ⟨j, hj, rfl⟩ := nI_of h
    rw [nI_clamp hj]
    by_cases hl : j < n
    · rw [if_pos hl]; exact Or.inr ⟨j, hl, rfl, rfl⟩
    · rw [if_neg hl]; exact Or.inl ⟨rfl, Or.inr ⟨j, by omega, hj, rfl⟩⟩
theorem zp_has {fu N : Nat} {v : zRow} {l : List Int32} (h : zr N v l) (a : Int32) : (zin a l.length = none ∧ zf_X5_has fu N v a = some 0) ∨ ∃ i : Nat, i < l.length ∧ a = nI i ∧ zin a l.length = some i ∧ zf_X5_has fu N v a = some 1 := by
  rcases zin_cases a (n := l.length) (by have := h.1; have := h.2.1; omega) with ⟨e, h1 | ⟨i, h1, h2, rfl⟩⟩ | ⟨i, h1, rfl, e⟩
  · exact Or.inl ⟨e, zp_has_neg h1⟩
  · exact Or.inl ⟨e, zp_has_big h h1 h2⟩
  · exact Or.inr ⟨i, h1, rfl, e, zp_has_in h h1⟩
theorem zpre_refl (S : zNow) : zpre S S := ⟨List.prefix_refl _, List.prefix_refl _, List.prefix_refl _⟩
theorem zpre_trans {S T U : zNow} (h1 : zpre S T) (h2 : zpre T U) : zpre S U := ⟨h1.1.trans h2.1, h1.2.1.trans h2.2.1, h1.2.2.trans h2.2.2⟩
theorem zok_push {A : zAb} (h : zok A) {b : List Int32} {S' : zNow} (hb : (∀ c ∈ b, ¬ zcode c = -1) ∧ b.length ≤ 60) (hS : zokS S') (hp : zpre A.2.1 S') : zok (b, S', zHs A.2.2 A.2.1) := by
  obtain ⟨-, -, h3, h4, h5, h6⟩ := h
  have hsub : (zHs A.2.2 A.2.1).Sublist (A.2.2 ++ [A.2.1]) := by
    unfold zHs
    split
    · exact (List.drop_sublist 1 _).append (List.Sublist.refl _)
    · exact List.Sublist.refl _
  refine ⟨hb.1, hb.2, hS, ?_, fun S hSm => ?_, ?_⟩
  · unfold zHs
    show ((if _ then _ else _) ++ [A.2.1] : List zNow).length ≤ 6
    rw [List.length_append]
    split
    · rw [List.length_drop]; simp only [List.length_cons, List.length_nil]; omega
    · simp only [List.length_cons, List.length_nil]; omega
  · rcases List.mem_append.mp (hsub.subset hSm) with hm | hm
    · exact h5 S hm
    · rw [List.mem_singleton.mp hm]; exact h3
  · show ((zHs A.2.2 A.2.1) ++ [S']).Pairwise zpre
    rw [List.pairwise_append]
    refine ⟨h6.sublist hsub, List.pairwise_singleton _ _, fun S hSm T hT => ?_⟩
    rw [List.mem_singleton.mp hT]
    rcases List.mem_append.mp (hsub.subset hSm) with hm | hm
    · exact zpre_trans ((List.pairwise_append.mp h6).2.2 S hm A.2.1 (List.mem_singleton.mpr rfl)) hp
    · rw [List.mem_singleton.mp hm]; exact hp
/-- setFault -/
def zSetF (S : zNow) (i : Nat) (f : Int32) : zNow := (S.1, S.2.1, S.2.2.1, S.2.2.2.1.set i f, S.2.2.2.2)
def aFlt (A : zAb) (a f : Int32) : Int32 × Int32 × zAb := match zin a 200 with
  | none => (1, 0, A)
  | some i => if f < -1 ∨ 5 < f then (2, 0, A) else (0, A.2.1.2.2.2.1.getD i 0, (A.1, zSetF A.2.1 i f, zHs A.2.2 A.2.1))
theorem aFlt_n {A : zAb} {a f : Int32} (h : zin a 200 = none) : aFlt A a f = (1, 0, A) := by unfold aFlt; rw [h]
theorem aFlt_b {A : zAb} {a f : Int32} {i : Nat} (h : zin a 200 = some i) (hf : f < -1 ∨ 5 < f) : aFlt A a f = (2, 0, A) := by unfold aFlt; rw [h]; exact if_pos hf
theorem aFlt_s {A : zAb} {a f : Int32} {i : Nat} (h : zin a 200 = some i) (hf : ¬ (f < -1 ∨ 5 < f)) : aFlt A a f = (0, A.2.1.2.2.2.1.getD i 0, (A.1, zSetF A.2.1 i f, zHs A.2.2 A.2.1)) := by unfold aFlt; rw [h]; exact if_neg hf
theorem ck_flt {v : zTR} {A : zAb} (h : zcR v A) (hk : zok A) (a f : Int32) : ∃ v', zf_X7_setFault 10000 v a f = some ((aFlt A a f).1, (aFlt A a f).2.1, v') ∧ zcR v' (aFlt A a f).2.2 := by
  have h0 := h
  obtain ⟨h1, h2, h3, h4⟩ := h
  have h22 := h2
  obtain ⟨⟨k1, k2, k3, k4, k5, k6⟩, k7⟩ := h2
  have o3 := hk.2.2.1
  have hl : A.2.1.2.2.2.1.length = 200 := o3.2.2.2.2.1
  unfold zf_X7_setFault zf_X7_setFault_b34
  rcases zp_has (fu := 10000) k4 a with ⟨e, e1⟩ | ⟨i, hi, rfl, e, e1⟩
  · rw [hl] at e
    rw [e1, Option.bind_some, if_pos rfl, aFlt_n e]
    exact ⟨v, rfl, h0⟩
  · rw [hl] at e hi
    rw [e1, Option.bind_some, if_neg z10]
    by_cases hf1 : f < -1
    · rw [if_pos hf1, aFlt_b e (Or.inl hf1)]
      exact ⟨_, rfl, h0⟩
    · rw [if_neg hf1]
      by_cases hf2 : f ≤ 5
      · obtain ⟨b5, e5, g5⟩ := zh_save h4 h22 o3.un
        obtain ⟨b7, e7, g7⟩ := zp_set (fu := 10000) k4 (i := i) (by omega) f
        have hx : A.2.1.2.2.2.1[i]? = some (A.2.1.2.2.2.1.getD i 0) := by rw [List.getD_eq_getElem?_getD, List.getElem?_eq_getElem (by omega)]; rfl
        rw [if_pos hf2, e5, Option.bind_some, zp_at k4 hx, Option.bind_some, e7, Option.bind_some, aFlt_s e (fun h => h.elim hf1 (fun h => Int32.not_lt.mpr hf2 h))]
        exact ⟨_, rfl, h1, ⟨⟨k1, k2, k3, g7, k5, k6⟩, k7⟩, h3, g5⟩
      · rw [if_neg hf2, aFlt_b e (Or.inr (Int32.not_le.mp hf2))]
        exact ⟨_, rfl, h0⟩
theorem zflt_val {f : Int32} (h1 : ¬ f < -1) (h2 : ¬ 5 < f) : f = -1 ∨ ∃ k : Nat, k ≤ 5 ∧ f = nI k := by
  by_cases h : f < 0
  · left
    rw [Int32.lt_iff_toInt_lt] at *
    rw [← Int32.toInt_inj]
    have e1 : (-1 : Int32).toInt = -1 := by decide
    have e2 : (0 : Int32).toInt = 0 := by decide
    omega
  · obtain ⟨j, hj, rfl⟩ := nI_of h
    right
    refine ⟨j, ?_, rfl⟩
    by_cases h5 : j ≤ 5
    · exact h5
    · exact absurd (nI_lt (a := 5) (b := j) (by omega) hj) h2
theorem ok_flt {A : zAb} (hk : zok A) (a f : Int32) : zok (aFlt A a f).2.2 := by
  cases e : zin a 200 with
  | none => rw [aFlt_n e]; exact hk
  | some i =>
    by_cases hf : f < -1 ∨ 5 < f
    · rw [aFlt_b e hf]; exact hk
    · rw [aFlt_s e hf]
      have o3 := hk.2.2.1
      refine zok_push hk ⟨hk.1, hk.2.1⟩ ⟨o3.1, o3.2.1, o3.2.2.1, o3.2.2.2.1, by show (A.2.1.2.2.2.1.set i f).length = 200; rw [List.length_set]; exact o3.2.2.2.2.1, fun x hx => ?_, o3.2.2.2.2.2.2⟩ ⟨List.prefix_refl _, List.prefix_refl _, List.prefix_refl _⟩
      rcases List.mem_or_eq_of_mem_set hx with hx | rfl
      · exact o3.2.2.2.2.2.1 x hx
      · exact zflt_val (fun h => hf (Or.inl h)) (fun h => hf (Or.inr h))
theorem ok_snd {A : zAb} (hk : zok A) : zok (aSnd A).2.2 := by
  unfold aSnd
  by_cases hb : A.1 = []
  · rw [if_pos hb]; exact hk
  rw [if_neg hb]
  by_cases hle : A.2.1.1.length + (aNeed A).length ≤ 200
  · rw [if_pos hle]
    have o3 := hk.2.2.1
    have hng : A.1.length ≤ (aNeed A).length := zenc_ge A.2.1.2.2.2.2.2.2 A.1 A.2.1.2.2.2.2.2.1
    have hpre := ztxs_pre A.2.1.2.2.2.1 (aNeed A) (A.2.1.1, A.2.1.2.1)
    refine zok_push hk ⟨fun x hx => absurd hx List.not_mem_nil, Nat.zero_le _⟩ ?_ ⟨hpre.1, hpre.2, List.prefix_append _ _⟩
    obtain ⟨q1, q2⟩ := ztxs_len A.2.1.2.2.2.1 (aNeed A) (A.2.1.1, A.2.1.2.1) o3.2.1
    have q2 : (ztxs A.2.1.2.2.2.1 (A.2.1.1, A.2.1.2.1) (aNeed A)).1.length = A.2.1.1.length + (aNeed A).length := q2
    have hw : (zwri A.1).length ≤ A.1.length := List.length_filter_le _ _
    refine ⟨by show (ztxs A.2.1.2.2.2.1 (A.2.1.1, A.2.1.2.1) (aNeed A)).1.length ≤ 200; omega, q1, ?_, ztxs_cd o3.2.2.2.2.2.1 _ _ (zenc_cd _ _ _ hk.1) o3.2.2.2.1, o3.2.2.2.2.1, o3.2.2.2.2.2.1, o3.2.2.2.2.2.2.1, o3.2.2.2.2.2.2.2.1, o3.2.2.2.2.2.2.2.2.1, zshs_bit _ _ o3.sh, o3.un⟩
    show (A.2.1.2.2.1 ++ zwri A.1).length ≤ (ztxs A.2.1.2.2.2.1 (A.2.1.1, A.2.1.2.1) (aNeed A)).1.length
    rw [List.length_append]
    have := o3.2.2.1
    omega
  · rw [if_neg hle]; exact hk
/-- unshiftOnSpace -/
def zSetU (S : zNow) (u : Int32) : zNow := (S.1, S.2.1, S.2.2.1, S.2.2.2.1, S.2.2.2.2.1, S.2.2.2.2.2.1, u)
def aUns (A : zAb) (u : Int32) : Int32 × zAb := (A.2.1.2.2.2.2.2.2, (A.1, zSetU A.2.1 u, zHs A.2.2 A.2.1))
theorem zokS_u {S : zNow} (o3 : zokS S) {u : Int32} (hu : zbit u) : zokS (zSetU S u) := ⟨o3.1, o3.2.1, o3.2.2.1, o3.2.2.2.1, o3.2.2.2.2.1, o3.2.2.2.2.2.1, o3.2.2.2.2.2.2.1, o3.2.2.2.2.2.2.2.1, o3.2.2.2.2.2.2.2.2.1, o3.sh, hu⟩
theorem ck_uns {v : zTR} {A : zAb} (h : zcR v A) (hk : zok A) {u : Int32} (hu : zbit u) : ∃ v', zf_X7_unshiftOnSpace 10000 v u = some ((aUns A u).1, v') ∧ zcR v' (aUns A u).2 := by
  obtain ⟨h1, h2, h3, h4⟩ := h
  have h22 := h2
  obtain ⟨⟨k1, k2, k3, k4, k5, k6⟩, k7⟩ := h2
  have o3 := hk.2.2.1
  obtain ⟨b1, e1, g1⟩ := zh_save h4 h22 o3.un
  obtain ⟨b, e, g⟩ := zk_anew v.2.2.2.1 (v1 := (v.2.1.1, v.2.1.2.1, v.2.1.2.2.1, v.2.1.2.2.2.1, v.2.1.2.2.2.2.1, v.2.1.2.2.2.2.2.1, u)) (v2 := v.2.2.1) (S := zSetU A.2.1 u) ⟨⟨k1, k2, k3, k4, k5, rfl⟩, k7⟩ (zokS_u o3 hu)
  unfold zf_X7_unshiftOnSpace
  rw [e1, Option.bind_some, if_pos (show u = 0 ∨ u = 1 from hu), e, Option.bind_some, k6, if_pos (show A.2.1.2.2.2.2.2.2 = 0 ∨ A.2.1.2.2.2.2.2.2 = 1 from o3.un)]
  exact ⟨_, rfl, h1, ⟨⟨k1, k2, k3, k4, k5, rfl⟩, k7⟩, g, g1⟩
theorem ok_uns {A : zAb} (hk : zok A) {u : Int32} (hu : zbit u) : zok (aUns A u).2 :=
  zok_push hk ⟨hk.1, hk.2.1⟩ (zokS_u hk.2.2.1 hu) ⟨List.prefix_refl _, List.prefix_refl _, List.prefix_refl _⟩
/-- undo -/
def aUnd (A : zAb) : Int32 × Int32 × zAb := match A.2.2.getLast? with
  | none => (1, 0, A)
  | some S => (0, nI (A.2.2.length - 1), (A.1, S, A.2.2.dropLast))
theorem aUnd_n {A : zAb} (h : A.2.2 = []) : aUnd A = (1, 0, A) := by unfold aUnd; rw [h]; rfl
theorem aUnd_s {A : zAb} {H0 : List zNow} {S : zNow} (h : A.2.2 = H0 ++ [S]) : aUnd A = (0, nI H0.length, (A.1, S, H0)) := by
  unfold aUnd
  rw [h, List.getLast?_concat, List.dropLast_concat, List.length_append]
  rfl
theorem zlast {H : List zNow} : H = [] ∨ ∃ H0 S, H = H0 ++ [S] := by
  rcases List.eq_nil_or_concat H with h | ⟨H0, S, h⟩
  · exact Or.inl h
  · exact Or.inr ⟨H0, S, by rw [h, List.concat_eq_append]⟩
theorem ck_und {v : zTR} {A : zAb} (h : zcR v A) (hk : zok A) : ∃ v', zf_X7_undo 10000 v = some ((aUnd A).1, (aUnd A).2.1, v') ∧ zcR v' (aUnd A).2.2 := by
  have h0 := h
  obtain ⟨h1, h2, h3, h4⟩ := h
  have hc := h4.1
  have hle := h4.2.1
  unfold zf_X7_undo
  rw [hc]
  rcases zlast (H := A.2.2) with hn | ⟨H0, S, hn⟩
  · rw [aUnd_n hn, hn, if_pos (show nI ([] : List zNow).length = 0 from nI_0)]
    exact ⟨v, rfl, h0⟩
  · rw [aUnd_s hn]
    rw [hn] at hle h4 ⊢
    have hp : zpre S A.2.1 := by
      have := hk.2.2.2.2.2
      rw [hn] at this
      exact (List.pairwise_append.mp this).2.2 S (List.mem_append_right _ (List.mem_singleton.mpr rfl)) A.2.1 (List.mem_singleton.mpr rfl)
    have hSk : zokS S := hk.2.2.2.2.1 S (by rw [hn]; exact List.mem_append_right _ (List.mem_singleton.mpr rfl))
    rw [List.length_append] at hle
    simp only [List.length_cons, List.length_nil] at hle
    obtain ⟨r, e, g1, g2⟩ := zh_restore h4 h2 hp hSk.un
    obtain ⟨b, e2, g3⟩ := zk_anew v.2.2.2.1 g2 hSk
    rw [if_neg (nI_ne0 (by rw [List.length_append]; simp) (by rw [List.length_append]; simp only [List.length_cons, List.length_nil]; omega)), e, Option.bind_some, e2, Option.bind_some]
    refine ⟨(v.1, r.2.1, r.2.2, b, r.1), ?_, h1, g2, g3, g1⟩
    show some ((0 : Int32), r.1.2, ((v.1, r.2.1, r.2.2, b, r.1) : zTR)) = some (0, nI H0.length, _)
    rw [g1.1]
theorem ok_und {A : zAb} (hk : zok A) : zok (aUnd A).2.2 := by
  rcases zlast (H := A.2.2) with hn | ⟨H0, S, hn⟩
  · rw [aUnd_n hn]; exact hk
  · obtain ⟨h1, h2, h3, h4, h5, h6⟩ := hk
    rw [aUnd_s hn]
    rw [hn] at h4 h5 h6
    rw [List.length_append] at h4
    exact ⟨h1, h2, h5 S (List.mem_append_right _ (List.mem_singleton.mpr rfl)), by show H0.length ≤ 6; omega, fun T hT => h5 T (List.mem_append_left _ hT), (List.pairwise_append.mp h6).1⟩
end ZK2
