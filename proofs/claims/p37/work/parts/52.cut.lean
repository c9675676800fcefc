/-! ===== the pure part: what the class says of a cut ===== -/
section ZX
/-- where the run of signs before i begins; where the run from i on ends -/
def zst (l : List Int32) : Nat → Nat
  | 0 => 0
  | i + 1 => if zsg (l.getD i 0) = true then zst l i else i + 1
def zen (l : List Int32) (i : Nat) : Nat := i + ((l.drop i).takeWhile zsg).length
theorem zst_le (l : List Int32) : ∀ i : Nat, zst l i ≤ i
  | 0 => Nat.le_refl _
  | i + 1 => by
    have := zst_le l i
    unfold zst
    split <;> omega
theorem zen_ge (l : List Int32) (i : Nat) : i ≤ zen l i := Nat.le_add_right _ _
theorem zen_le (l : List Int32) {i : Nat} (h : i ≤ l.length) : zen l i ≤ l.length := by
  have : ((l.drop i).takeWhile zsg).length ≤ (l.drop i).length := (List.takeWhile_sublist _).length_le
  rw [List.length_drop] at this
  unfold zen
  omega
theorem zx_stL {N : Nat} {v : zRow} {l : List Int32} (h : zr N v l) : ∀ (i n : Nat), i ≤ l.length → i < n → zf_X0_startOfSigns_L2 10000 N v n (nI i) = some (nI (zst l i))
  | i, 0, _, hn => absurd hn (Nat.not_lt_zero _)
  | 0, n + 1, hi, hn => by
    unfold zf_X0_startOfSigns_L2
    rw [if_pos (show nI 0 ≤ 0 by decide)]
    rfl
  | i + 1, n + 1, hi, hn => by
    have hlt := h.lt
    have hx : l[i]? = some (l.getD i 0) := by rw [List.getD_eq_getElem?_getD, List.getElem?_eq_getElem (by omega)]; rfl
    unfold zf_X0_startOfSigns_L2 zst
    rw [if_neg (nI_nle (by omega) (by omega)), nI_pred, zp_at h hx, Option.bind_some, zsg_c, Option.bind_some]
    cases hg : zsg (l.getD i 0) with
    | false => simp only [Bool.false_eq_true, ↓reduceIte]
    | true =>
      simp only [↓reduceIte, if_neg z10]
      rw [zlet_eq, show nI (i + 1) + (-1) = nI i by rw [← Int32.sub_eq_add_neg, nI_pred]]
      exact zx_stL h i n (by omega) (by omega)
theorem zx_st {N : Nat} {v : zRow} {l : List Int32} (h : zr N v l) (hN : N < 10000) {i : Nat} (hi : i ≤ l.length) : zf_X0_startOfSigns 10000 N v (nI i) = some (nI (zst l i)) := by
  have := h.2.1
  exact zx_stL h i 10000 hi (by omega)
theorem zx_enL {N : Nat} {v : zRow} {l : List Int32} (h : zr N v l) : ∀ (d i n : Nat), i + d = l.length → d < n → zf_X0_endOfSigns_L2 10000 N v n (nI i) = some (nI (zen l i))
  | d, i, 0, _, hn => absurd hn (Nat.not_lt_zero _)
  | 0, i, n + 1, hi, hn => by
    have hlt := h.lt
    unfold zf_X0_endOfSigns_L2 zen
    rw [zp_size h, Option.bind_some, if_pos (nI_le (by omega) (by omega)), Option.bind_some, List.drop_of_length_le (by omega), show l.length = i by omega]
    rfl
  | d + 1, i, n + 1, hi, hn => by
    have hlt := h.lt
    have hil : i < l.length := by omega
    unfold zf_X0_endOfSigns_L2
    rw [zp_size h, Option.bind_some, if_neg (nI_ge hil (by omega)), zp_at h (List.getElem?_eq_getElem hil), Option.bind_some, zsg_c, Option.bind_some]
    cases hg : zsg l[i] with
    | false =>
      simp only [Bool.false_eq_true, ↓reduceIte]
      unfold zen
      rw [List.drop_eq_getElem_cons hil, List.takeWhile_cons_of_neg (by rw [hg]; decide)]
      rfl
    | true =>
      simp only [↓reduceIte, if_neg z10]
      rw [zlet_eq, nI_1, zx_enL h d (i + 1) n (by omega) (by omega)]
      unfold zen
      rw [List.drop_eq_getElem_cons hil, List.takeWhile_cons_of_pos hg, List.length_cons]
      congr 2
      omega
theorem zx_en {N : Nat} {v : zRow} {l : List Int32} (h : zr N v l) (hN : N < 10000) {i : Nat} (hi : i ≤ l.length) : zf_X0_endOfSigns 10000 N v (nI i) = some (nI (zen l i)) := by
  have := h.2.1
  exact zx_enL h (l.length - i) i 10000 (by omega) (by omega)
/-- 1 for a run in doubt -/
def zdb (ws seg : List Int32) : Int32 := if zkd ws seg 0 < 4 then 0 else 1
theorem zdb_01 (ws seg : List Int32) : zdb ws seg = 0 ∨ zdb ws seg = 1 := by
  unfold zdb
  split
  · exact Or.inl rfl
  · exact Or.inr rfl
theorem zx_isd {N : Nat} {v w : zRow} {l ws : List Int32} (h : zr N v l) (hw : zr 20 w ws) (h0 : (0 : Int32) ∉ ws) (hN : N < 10000) {a b : Nat} (hab : a ≤ b) (hb : b ≤ l.length) : zf_X1_isDoubtful 10000 N w v (nI a) (nI b) = some (zdb ws ((l.drop a).take (b - a))) := by
  obtain ⟨d, rfl⟩ : ∃ d, b = a + d := ⟨b - a, by omega⟩
  unfold zf_X1_isDoubtful zdb zkd zpl
  rw [zd_fs h hw h0 hb hN, Option.bind_some, zd_dig h hb hN, Nat.add_sub_cancel_left]
  by_cases hf : zfind (zpk ((l.drop a).take d)) ws 0 = -1 <;> cases hd : zdig ((l.drop a).take d) <;> simp [hf]
theorem zx_db {N : Nat} {v w : zRow} {l ws : List Int32} (h : zr N v l) (hw : zr 20 w ws) (h0 : (0 : Int32) ∉ ws) (hN : N < 10000) {a b : Nat} (hab : a ≤ b) (hb : b ≤ l.length) : zf_X1_doubtOf 10000 N w v (nI a) (nI b) = some (zdb ws ((l.drop a).take (b - a))) := by
  unfold zf_X1_doubtOf
  rw [zx_isd h hw h0 hN hab hb, Option.bind_some]
  rcases zdb_01 ws ((l.drop a).take (b - a)) with e | e
  · rw [e]; rfl
  · rw [e]; rfl
def zcut (ws l : List Int32) (i : Nat) : Int32 := if zst l i = i then 0 else if zen l i = i then 0 else zdb ws ((l.drop (zst l i)).take (i - zst l i)) + zdb ws ((l.drop i).take (zen l i - i)) - zdb ws ((l.drop (zst l i)).take (zen l i - zst l i))
theorem zx_cut {v : zTR} {A : zAb} (h : zcR v A) (hk : zok A) {i : Nat} (hi : i ≤ A.2.1.2.1.length) : zf_X7_changeByCut 10000 v (nI i) = some (zcut (A.2.1.2.2.2.2.1.map zpk) A.2.1.2.1 i) := by
  have h3 := h.2.1.1.2.2.1
  have h7 := h.2.1.2
  have hlt := h3.lt
  have h1 := zst_le A.2.1.2.1 i
  have h2 := zen_ge A.2.1.2.1 i
  have h4 := zen_le A.2.1.2.1 hi
  unfold zf_X7_changeByCut zcut
  rw [zx_st h3 (by omega) hi, Option.bind_some, zx_en h3 (by omega) hi, Option.bind_some]
  by_cases e1 : zst A.2.1.2.1 i = i
  · rw [if_pos (by rw [e1]), if_pos e1]
  · rw [if_neg (fun e => e1 ((nI_eq (by omega) (by omega)).mp e)), if_neg e1]
    by_cases e2 : zen A.2.1.2.1 i = i
    · rw [if_pos (by rw [e2]), if_pos e2]
    · rw [if_neg (fun e => e2 ((nI_eq (by omega) (by omega)).mp e)), if_neg e2, zx_db h3 h7 hk.2.2.1.w0 (by omega) h1 (by omega), Option.bind_some, zx_db h3 h7 hk.2.2.1.w0 (by omega) h2 h4, Option.bind_some, zx_db h3 h7 hk.2.2.1.w0 (by omega) (by omega) h4, Option.bind_some, zlet_eq]
/-- doubtfulWith -/
def zdbs (S : zNow) : Nat := (zPn S).2.2.1.count 4 + (zPn S).2.2.1.count 5
def aDwt (A : zAb) (a c : Int32) : Int32 × Int32 := match zin a (A.2.1.2.1.length + 1) with
  | none => (1, 0)
  | some i => if c = 30 ∨ c = 31 then (0, nI (zdbs A.2.1) + zcut (A.2.1.2.2.2.2.1.map zpk) A.2.1.2.1 i) else (2, 0)
theorem cq_dwt {v : zTR} {A : zAb} (h : zcR v A) (hk : zok A) (a c : Int32) : zf_X7_doubtfulWith 10000 v a c = some (aDwt A a c) := by
  have h3 := h.2.1.1.2.2.1
  have hlt := h3.lt
  have h200 := h3.2.1
  have b44 : ∀ i : Nat, i ≤ A.2.1.2.1.length → zf_X7_doubtfulWith_b44 10000 v (nI i) = some (0, nI (zdbs A.2.1) + zcut (A.2.1.2.2.2.2.1.map zpk) A.2.1.2.1 i) := by
    intro i hi
    unfold zf_X7_doubtfulWith_b44
    rw [cq_doubt h, Option.bind_some, zx_cut h hk hi, Option.bind_some, zlet_eq]
    rfl
  unfold zf_X7_doubtfulWith aDwt zf_X7_doubtfulWith_b12
  rcases zin_cases a (n := A.2.1.2.1.length + 1) (by omega) with ⟨f, h1 | ⟨k, h1, h2, rfl⟩⟩ | ⟨k, h1, rfl, f⟩
  · rw [if_pos h1, f]
  · rw [if_neg (nI_pos h2), cq_recv h, Option.bind_some, if_neg (nI_ge (by omega) h2), f]
  · rw [if_neg (nI_pos (by omega)), cq_recv h, Option.bind_some, if_pos (nI_le (by omega) (by omega)), f]
    by_cases c1 : c = 30
    · rw [if_pos c1, b44 k (by omega)]
      simp only [if_pos (show c = 30 ∨ c = 31 from Or.inl c1)]
    · rw [if_neg c1]
      by_cases c2 : c = 31
      · rw [if_pos c2, b44 k (by omega)]
        simp only [if_pos (show c = 30 ∨ c = 31 from Or.inr c2)]
      · rw [if_neg c2]
        simp only [if_neg (show ¬ (c = 30 ∨ c = 31) from fun h => h.elim c1 c2)]
/-- bestRepair: d places from i on, the best so far, its change -/
def zbr (cut : Nat → Int32) : Nat → Nat → Int32 → Int32 → Int32
  | 0, _, b, _ => b
  | d + 1, i, b, g => if g ≤ cut i then zbr cut d (i + 1) b g else zbr cut d (i + 1) (2 * nI i) (cut i)
def aBest (A : zAb) : Int32 := zbr (zcut (A.2.1.2.2.2.2.1.map zpk) A.2.1.2.1) (A.2.1.2.1.length + 1) 0 (-1) 0
end ZX
