/-! ===== the pure part: the class learns ===== -/
section ZL
def zlet0 (c : Int32) : Bool := decide (97 ≤ c) && decide (c ≤ 122)
theorem zlet0_c (c : Int32) : zf_X0_isLetter 10000 c = some (if zlet0 c = true then 1 else 0) := by
  unfold zf_X0_isLetter zlet0
  by_cases h1 : c < 97
  · rw [if_pos h1, decide_eq_false (Int32.not_le.mpr h1)]; rfl
  · rw [if_neg h1, decide_eq_true (Int32.not_lt.mp h1)]
    by_cases h2 : 122 < c
    · rw [if_pos h2, decide_eq_false (Int32.not_le.mpr h2)]; rfl
    · rw [if_neg h2, decide_eq_true (Int32.not_lt.mp h2)]; rfl
theorem zlet0_fin : ∀ k : Nat, k < 123 → zlet0 (nI k) = true → zsg (zcode (nI k)) = true ∧ ∃ j : Nat, j < 32 ∧ zcode (nI k) = nI j := by decide +kernel
theorem zlet0_sg {c : Int32} (h : zlet0 c = true) : zsg (zcode c) = true ∧ zcd (zcode c) := by
  unfold zlet0 at h
  have h' := h
  rw [Bool.and_eq_true, decide_eq_true_eq, decide_eq_true_eq] at h'
  rcases zi_cases c 122 (by omega) with e | e | ⟨k, hk, rfl⟩
  · exact absurd (zlt_trans e (show (0 : Int32) < 97 by decide)) (Int32.not_lt.mpr h'.1)
  · exact absurd (show (122 : Int32) < c from e) (Int32.not_lt.mpr h'.2)
  · exact zlet0_fin k hk h
theorem zl_wL {v : zRow} {l : List Int32} (h : zr 60 v l) (h6 : l.length ≤ 6) : ∀ (d i n : Nat) (acc : Int32), i + d = l.length → d < n → zf_X1_wordOfCharacters_L15 10000 60 v n acc (nI i) = some (if (l.drop i).all zlet0 = true then zpks i acc ((l.drop i).map zcode) else 0)
  | d, i, 0, acc, hd, hn => absurd hn (Nat.not_lt_zero _)
  | 0, i, n + 1, acc, hd, hn => by
    have hlt := h.lt
    unfold zf_X1_wordOfCharacters_L15
    rw [zp_size h, Option.bind_some, if_pos (nI_le (by omega) (by omega)), List.drop_of_length_le (by omega)]
    rfl
  | d + 1, i, n + 1, acc, hd, hn => by
    have hlt := h.lt
    have hi : i < l.length := by omega
    unfold zf_X1_wordOfCharacters_L15
    rw [zp_size h, Option.bind_some, if_neg (nI_ge hi (by omega)), zp_at h (List.getElem?_eq_getElem hi), Option.bind_some, zlet0_c, Option.bind_some, List.drop_eq_getElem_cons hi, List.all_cons, List.map_cons]
    cases hz : zlet0 l[i] with
    | false => simp only [Bool.false_eq_true, ↓reduceIte, Bool.false_and]
    | true =>
      simp only [↓reduceIte, Bool.true_and, if_neg z10, Option.bind_some, zcode_c, zlet_eq, nI_1]
      rw [zl_wL h h6 d (i + 1) n _ (by omega) (by omega)]
      rfl
theorem zl_word {v : zRow} {l : List Int32} (h : zr 60 v l) : zf_X1_wordOfCharacters 10000 60 v = some (if l.length ≤ 6 ∧ l.all zlet0 = true then zpk (l.map zcode) else 0) := by
  have hlt := h.lt
  unfold zf_X1_wordOfCharacters
  rw [zp_size h, Option.bind_some]
  by_cases h6 : l.length ≤ 6
  · rw [if_pos (show nI l.length ≤ 6 from nI_le (b := 6) h6 (by omega))]
    have := zl_wL h h6 l.length 0 10000 0 (by omega) (by omega)
    rw [nI_0, List.drop_zero] at this
    rw [this]
    unfold zpk
    by_cases ha : l.all zlet0 = true
    · rw [if_pos ha, if_pos ⟨h6, ha⟩, if_pos (by rw [List.length_map]; exact h6)]
    · rw [if_neg ha, if_neg (fun h => ha h.2)]
  · rw [if_neg (show ¬ nI l.length ≤ 6 from nI_ge (a := 6) (by omega) (by omega)), if_neg (fun h => h6 h.1)]
/-- learn -/
def zAddW (S : zNow) (w : List Int32) : zNow := (S.1, S.2.1, S.2.2.1, S.2.2.2.1, S.2.2.2.2.1 ++ [w], S.2.2.2.2.2)
def aLrn (A : zAb) : Int32 × Int32 × zAb := if ¬ (A.1.length ≤ 6 ∧ A.1.all zlet0 = true) ∨ A.1 = [] then (1, 0, A) else if A.1.map zcode ∈ A.2.1.2.2.2.2.1 then (0, nI A.2.1.2.2.2.2.1.length, ([], A.2.1, zHs A.2.2 A.2.1)) else if A.2.1.2.2.2.2.1.length < 20 then (0, nI (A.2.1.2.2.2.2.1.length + 1), ([], zAddW A.2.1 (A.1.map zcode), zHs A.2.2 A.2.1)) else (2, 0, A)
theorem zl_sg {l : List Int32} (h : l.all zlet0 = true) : ∀ c ∈ l.map zcode, zsg c = true ∧ zcd c := by
  intro c hc
  obtain ⟨x, hx, rfl⟩ := List.mem_map.mp hc
  exact zlet0_sg (List.all_eq_true.mp h x hx)
theorem zokS_add {S : zNow} (o3 : zokS S) {w : List Int32} (hw : zwd w) (hn : w ∉ S.2.2.2.2.1) (hl : S.2.2.2.2.1.length < 20) : zokS (zAddW S w) := by
  refine ⟨o3.1, o3.2.1, o3.2.2.1, o3.2.2.2.1, o3.2.2.2.2.1, o3.2.2.2.2.2.1, by show (S.2.2.2.2.1 ++ [w]).length ≤ 20; rw [List.length_append]; exact hl, fun x hx => ?_, ?_, o3.sh, o3.un⟩
  · rcases List.mem_append.mp hx with hx | hx
    · exact o3.2.2.2.2.2.2.2.1 x hx
    · rw [List.mem_singleton.mp hx]; exact hw
  · show (S.2.2.2.2.1 ++ [w]).Nodup
    rw [List.nodup_append]
    refine ⟨o3.2.2.2.2.2.2.2.2.1, by simp, fun a ha b hb e => ?_⟩
    rw [List.mem_singleton.mp hb] at e
    exact hn (e ▸ ha)
theorem ck_lrn {v : zTR} {A : zAb} (h : zcR v A) (hk : zok A) : ∃ v', zf_X7_learn 10000 v = some ((aLrn A).1, (aLrn A).2.1, v') ∧ zcR v' (aLrn A).2.2 := by
  have h0 := h
  obtain ⟨h1, h2, h3, h4⟩ := h
  have h22 := h2
  obtain ⟨k0, k7⟩ := h2
  have o3 := hk.2.2.1
  have hw20 := o3.2.2.2.2.2.2.1
  unfold zf_X7_learn aLrn
  rw [zl_word h1, Option.bind_some]
  by_cases hg : A.1.length ≤ 6 ∧ A.1.all zlet0 = true
  · rw [if_pos hg]
    by_cases hb : A.1 = []
    · rw [if_pos (show zpk (A.1.map zcode) = 0 by rw [hb]; rfl), if_pos (Or.inr hb)]
      exact ⟨v, rfl, h0⟩
    have hpos : 0 < A.1.length := List.length_pos_iff.mpr hb
    have hsg := zl_sg hg.2
    have hwd : zwd (A.1.map zcode) := ⟨by rw [List.length_map]; exact hpos, by rw [List.length_map]; exact hg.1, hsg⟩
    have hne : ¬ zpk (A.1.map zcode) = 0 := by
      rw [zpk_np (fun c hc => (hsg c hc).2) hwd.2.1]
      refine nI_ne0 ?_ (by have := znp_30 (fun c hc => (hsg c hc).2) hwd.2.1; omega)
      cases hl : A.1.map zcode with
      | nil => rw [List.map_eq_nil_iff] at hl; exact absurd hl hb
      | cons c cs =>
        have := zsg_pos (hsg c (by rw [hl]; exact List.mem_cons_self)).1 (hsg c (by rw [hl]; exact List.mem_cons_self)).2
        show 0 < c.toNatClampNeg + 32 * znp cs
        omega
    have hfind : zf_X5_find 10000 20 v.2.2.1 (zpk (A.1.map zcode)) = some (zfw (A.1.map zcode) A.2.1.2.2.2.2.1 0) := by
      rw [zp_find k7 (by rw [List.length_map]; omega), zfind_w hsg (by rw [List.length_map]; exact hpos) _ _ o3.2.2.2.2.2.2.2.1]
    have b93 : ∀ (S' : zNow) (d : zRow) (b8 : zHist), zokS S' → zrC v.2.1 d S' → zrH b8 (zHs A.2.2 A.2.1) → ∃ v', zf_X7_learn_b96 10000 v v.1 d v.2.2.2.1.1 v.2.2.2.1.2.1 v.2.2.2.1.2.2.1 v.2.2.2.1.2.2.2.1 v.2.2.2.1.2.2.2.2.1 v.2.2.2.1.2.2.2.2.2.1 v.2.2.2.1.2.2.2.2.2.2.1 v.2.2.2.1.2.2.2.2.2.2.2 b8 = some (0, nI S'.2.2.2.2.1.length, v') ∧ zcR v' ([], S', zHs A.2.2 A.2.1) := by
      intro S' d b8 hS hC hH
      obtain ⟨b11, e11, g11⟩ := zp_clear (fu := 10000) h1
      unfold zf_X7_learn_b96 zf_X7_words
      obtain ⟨b, e, g⟩ := zk_anew (v.2.2.2.1.1, v.2.2.2.1.2.1, v.2.2.2.1.2.2.1, v.2.2.2.1.2.2.2.1, v.2.2.2.1.2.2.2.2.1, v.2.2.2.1.2.2.2.2.2.1, v.2.2.2.1.2.2.2.2.2.2.1, v.2.2.2.1.2.2.2.2.2.2.2) hC hS
      rw [e11, Option.bind_some, e, Option.bind_some]
      rw [show zf_X5_size 10000 20 (b11, v.2.1, d, b, b8).2.2.1 = some (nI (S'.2.2.2.2.1.map zpk).length) from zp_size hC.2, Option.bind_some, Option.bind_some, List.length_map]
      exact ⟨_, rfl, g11, hC, g, hH⟩
    have hor : ¬ (¬ (A.1.length ≤ 6 ∧ A.1.all zlet0 = true) ∨ A.1 = []) := fun h => h.elim (fun h => h hg) hb
    obtain ⟨b8, e8, g8⟩ := zh_save h4 h22 o3.un
    rw [if_neg hne, if_neg hor, hfind, Option.bind_some]
    have hno := zfw_no (l := A.1.map zcode) A.2.1.2.2.2.2.1 0 (by omega)
    unfold zf_X7_learn_b42 zf_X7_learn_b66 zf_X7_words
    by_cases hin : A.1.map zcode ∈ A.2.1.2.2.2.2.1
    · rw [if_neg (fun e => (hno.mp e) hin), if_pos rfl, e8, Option.bind_some, if_pos rfl, if_pos hin]
      exact b93 A.2.1 v.2.2.1 b8 o3 h22 g8
    · rw [if_pos (hno.mpr hin), if_neg z10]
      rw [show zf_X5_size 10000 20 (v.1, v.2.1, v.2.2.1, (v.2.2.2.1.1, v.2.2.2.1.2.1, v.2.2.2.1.2.2.1, v.2.2.2.1.2.2.2.1, v.2.2.2.1.2.2.2.2.1, v.2.2.2.1.2.2.2.2.2.1, v.2.2.2.1.2.2.2.2.2.2.1, v.2.2.2.1.2.2.2.2.2.2.2), v.2.2.2.2).2.2.1 = some (nI (A.2.1.2.2.2.2.1.map zpk).length) from zp_size k7, Option.bind_some, Option.bind_some, List.length_map, if_neg hin]
      by_cases hl : A.2.1.2.2.2.2.1.length < 20
      · obtain ⟨b10, e10, g10⟩ := zp_add (fu := 10000) k7 (by rw [List.length_map]; exact hl) (zpk (A.1.map zcode))
        rw [if_pos (show nI A.2.1.2.2.2.2.1.length < 20 from nI_lt (b := 20) hl (by omega)), e8, Option.bind_some, if_neg z10, e10, Option.bind_some, if_pos hl]
        have := b93 (zAddW A.2.1 (A.1.map zcode)) b10 b8 (zokS_add o3 hwd hin hl) ⟨k0, by show zr 20 b10 ((A.2.1.2.2.2.2.1 ++ [A.1.map zcode]).map zpk); rw [List.map_append]; exact g10⟩ g8
        rw [show (zAddW A.2.1 (A.1.map zcode)).2.2.2.2.1.length = A.2.1.2.2.2.2.1.length + 1 from by unfold zAddW; rw [List.length_append]; rfl] at this
        exact this
      · rw [if_neg (show ¬ nI A.2.1.2.2.2.2.1.length < 20 from nI_nlt (b := 20) (by omega) (by omega)), if_neg hl]
        exact ⟨v, rfl, h0⟩
  · rw [if_neg hg, if_pos rfl, if_pos (Or.inl hg)]
    exact ⟨v, rfl, h0⟩
theorem ok_lrn {A : zAb} (hk : zok A) : zok (aLrn A).2.2 := by
  have o3 := hk.2.2.1
  unfold aLrn
  by_cases h1 : ¬ (A.1.length ≤ 6 ∧ A.1.all zlet0 = true) ∨ A.1 = []
  · rw [if_pos h1]; exact hk
  rw [if_neg h1]
  have hg : A.1.length ≤ 6 ∧ A.1.all zlet0 = true := Classical.not_not.mp (fun h => h1 (Or.inl h))
  have hb : ¬ A.1 = [] := fun h => h1 (Or.inr h)
  have hnil : (∀ c ∈ ([] : List Int32), ¬ zcode c = -1) ∧ ([] : List Int32).length ≤ 60 := ⟨fun c hc => absurd hc List.not_mem_nil, Nat.zero_le _⟩
  by_cases h2 : A.1.map zcode ∈ A.2.1.2.2.2.2.1
  · rw [if_pos h2]
    exact zok_push hk hnil o3 (zpre_refl _)
  rw [if_neg h2]
  by_cases h3 : A.2.1.2.2.2.2.1.length < 20
  · rw [if_pos h3]
    exact zok_push hk hnil (zokS_add o3 ⟨by rw [List.length_map]; exact List.length_pos_iff.mpr hb, by rw [List.length_map]; exact hg.1, zl_sg hg.2⟩ h2 h3) ⟨List.prefix_refl _, List.prefix_refl _, List.prefix_refl _⟩
  · rw [if_neg h3]; exact hk
end ZL
