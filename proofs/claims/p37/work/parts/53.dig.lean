/-! ===== the pure part: wrong characters, the digest, of the class ===== -/
section ZG
/-- places where two lists differ, d of them from i on -/
def zmis (p w : List Int32) : Nat → Nat → Nat
  | 0, _ => 0
  | d + 1, i => (if p.getD i 0 = w.getD i 0 then 0 else 1) + zmis p w d (i + 1)
def zwrong (p w : List Int32) : Nat := (max p.length w.length - min p.length w.length) + zmis p w (min p.length w.length) 0
theorem zgetD {l : List Int32} {i : Nat} (h : i < l.length) : l[i]? = some (l.getD i 0) := by rw [List.getD_eq_getElem?_getD, List.getElem?_eq_getElem h]; rfl
theorem zg_wrL {v : zTR} {A : zAb} (h : zcR v A) {m : Nat} (h1 : m ≤ (zPn A.2.1).1.length) (h2 : m ≤ A.2.1.2.2.1.length) : ∀ (d i n c : Nat), i + d = m → d < n → zf_X7_wrongCharacters_L46 10000 v n (nI m) (nI c) (nI i) = some (nI (c + zmis (zPn A.2.1).1 A.2.1.2.2.1 d i))
  | d, i, 0, c, _, hn => absurd hn (Nat.not_lt_zero _)
  | 0, i, n + 1, c, hd, hn => by
    have hlt := h.2.2.1.1.lt
    unfold zf_X7_wrongCharacters_L46
    rw [if_pos (nI_le (by omega) (by omega))]
    rfl
  | d + 1, i, n + 1, c, hd, hn => by
    have hlt := h.2.2.1.1.lt
    unfold zf_X7_wrongCharacters_L46 zf_X7_wrongCharacters_b70
    rw [if_neg (nI_ge (by omega) (by omega)), zp_at h.2.2.1.1 (zgetD (by omega)), Option.bind_some, zp_at h.2.1.1.1 (zgetD (by omega)), Option.bind_some]
    unfold zmis
    split
    · rw [zlet_eq, nI_1, zg_wrL h h1 h2 d (i + 1) n c (by omega) (by omega), Nat.zero_add]
    · rw [zlet_eq, zlet_eq, nI_1, nI_1, zg_wrL h h1 h2 d (i + 1) n (c + 1) (by omega) (by omega)]
      congr 2
      omega
theorem cq_wrong {v : zTR} {A : zAb} (h : zcR v A) : zf_X7_wrongCharacters 10000 v = some (nI (zwrong (zPn A.2.1).1 A.2.1.2.2.1)) := by
  have hp := h.2.2.1.1
  have hw := h.2.1.1.1
  have l1 := hp.2.1
  have l2 := hw.2.1
  have hmin : (if nI A.2.1.2.2.1.length < nI (zPn A.2.1).1.length then nI A.2.1.2.2.1.length else nI (zPn A.2.1).1.length) = nI (min (zPn A.2.1).1.length A.2.1.2.2.1.length) := by
    by_cases e : A.2.1.2.2.1.length < (zPn A.2.1).1.length
    · rw [if_pos (nI_lt e (by omega)), Nat.min_eq_right (by omega)]
    · rw [if_neg (nI_nlt (by omega) (by omega)), Nat.min_eq_left (by omega)]
  have hmax : (if nI (zPn A.2.1).1.length < nI A.2.1.2.2.1.length then nI A.2.1.2.2.1.length else nI (zPn A.2.1).1.length) = nI (max (zPn A.2.1).1.length A.2.1.2.2.1.length) := by
    by_cases e : (zPn A.2.1).1.length < A.2.1.2.2.1.length
    · rw [if_pos (nI_lt e (by omega)), Nat.max_eq_right (by omega)]
    · rw [if_neg (nI_nlt (by omega) (by omega)), Nat.max_eq_left (by omega)]
  have hsub : nI (max (zPn A.2.1).1.length A.2.1.2.2.1.length) - nI (min (zPn A.2.1).1.length A.2.1.2.2.1.length) = nI (max (zPn A.2.1).1.length A.2.1.2.2.1.length - min (zPn A.2.1).1.length A.2.1.2.2.1.length) := by
    have := nI_subL (min (zPn A.2.1).1.length A.2.1.2.2.1.length) (max (zPn A.2.1).1.length A.2.1.2.2.1.length - min (zPn A.2.1).1.length A.2.1.2.2.1.length)
    rw [Nat.add_sub_cancel' (by omega)] at this
    exact this
  unfold zf_X7_wrongCharacters
  rw [zp_size hp, Option.bind_some, zp_size hw, Option.bind_some, zlet_eq, Option.bind_some, Option.bind_some, zlet_eq, zlet_eq, hmin, hmax, hsub]
  have := zg_wrL h (m := min (zPn A.2.1).1.length A.2.1.2.2.1.length) (by omega) (by omega) (min (zPn A.2.1).1.length A.2.1.2.2.1.length) 0 10000 (max (zPn A.2.1).1.length A.2.1.2.2.1.length - min (zPn A.2.1).1.length A.2.1.2.2.1.length) (by omega) (by omega)
  rw [nI_0] at this
  exact this
/-- the digest's two last loops: d places from i on -/
def zdgW (ws : List (List Int32)) (wd : List Int32) : Nat → Nat → Int64 → Int64
  | 0, _, y => y
  | d + 1, i, y => zdgW ws wd d (i + 1) (31 * (31 * y + (nI (ws.getD i []).length).toInt64) + (nI (wd.count (nI i))).toInt64)
def zdgS (ln kd : List Int32) : Nat → Nat → Int64 → Int64
  | 0, _, y => y
  | d + 1, i, y => zdgS ln kd d (i + 1) (31 * (31 * y + (ln.getD i 0).toInt64) + (kd.getD i 0).toInt64)
theorem zg_dW {v : zTR} {A : zAb} (h : zcR v A) (hk : zok A) : ∀ (d i n : Nat) (y : Int64), i + d = A.2.1.2.2.2.2.1.length → d < n → zf_X7_digest_L252 10000 v n y (nI i) = some (zdgW A.2.1.2.2.2.2.1 (zPn A.2.1).2.2.2.1 d i y)
  | d, i, 0, y, _, hn => absurd hn (Nat.not_lt_zero _)
  | 0, i, n + 1, y, hd, hn => by
    have h20 := hk.2.2.1.2.2.2.2.2.2.1
    unfold zf_X7_digest_L252
    rw [cq_words h, Option.bind_some, if_pos (nI_le (by omega) (by omega))]
    rfl
  | d + 1, i, n + 1, y, hd, hn => by
    have h20 := hk.2.2.1.2.2.2.2.2.2.1
    have hl := h.2.2.1.2.2.2.1.2.1
    have hwi : A.2.1.2.2.2.2.1[i]? = some (A.2.1.2.2.2.2.1.getD i []) := by rw [List.getD_eq_getElem?_getD, List.getElem?_eq_getElem (by omega)]; rfl
    unfold zf_X7_digest_L252
    rw [cq_words h, Option.bind_some, if_neg (nI_ge (by omega) (by omega)), zl_len h.2.1.2 hk.2.2.1.2.2.2.2.2.2.2.1 hwi, Option.bind_some, zlet_eq, zp_count h.2.2.1.2.2.2.1 (by omega), Option.bind_some, zlet_eq, zlet_eq, nI_1]
    exact zg_dW h hk d (i + 1) n _ (by omega) (by omega)
theorem zg_dS {v : zTR} {A : zAb} (h : zcR v A) (hk : zok A) (hln : (zPn A.2.1).2.1.length = (zPn A.2.1).2.2.1.length) : ∀ (d i n : Nat) (y : Int64), i + d = (zPn A.2.1).2.2.1.length → d < n → zf_X7_digest_L198 10000 v n y (nI i) = some (zdgW A.2.1.2.2.2.2.1 (zPn A.2.1).2.2.2.1 A.2.1.2.2.2.2.1.length 0 (zdgS (zPn A.2.1).2.1 (zPn A.2.1).2.2.1 d i y))
  | d, i, 0, y, _, hn => absurd hn (Nat.not_lt_zero _)
  | 0, i, n + 1, y, hd, hn => by
    have h20 := hk.2.2.1.2.2.2.2.2.2.1
    have hl := h.2.2.1.2.2.1.2.1
    unfold zf_X7_digest_L198
    rw [cq_segs h, Option.bind_some, if_pos (nI_le (by omega) (by omega))]
    have := zg_dW h hk A.2.1.2.2.2.2.1.length 0 10000 y (by omega) (by omega)
    rw [nI_0] at this
    exact this
  | d + 1, i, n + 1, y, hd, hn => by
    have hl := h.2.2.1.2.2.1.2.1
    unfold zf_X7_digest_L198
    rw [cq_segs h, Option.bind_some, if_neg (nI_ge (by omega) (by omega)), zp_at h.2.2.1.2.1 (zgetD (by omega)), Option.bind_some, zlet_eq, zp_at h.2.2.1.2.2.1 (zgetD (by omega)), Option.bind_some, zlet_eq, zlet_eq, nI_1]
    exact zg_dS h hk hln d (i + 1) n _ (by omega) (by omega)
/-- lengths and kinds go together -/
theorem zln_seg (ws run : List Int32) (P : zPr) (h : P.2.1.length = P.2.2.1.length) : (zsegE ws run P).2.1.length = (zsegE ws run P).2.2.1.length := by
  cases run with
  | nil => exact h
  | cons c cs =>
    show (P.2.1 ++ [_]).length = (P.2.2.1 ++ [_]).length
    rw [List.length_append, List.length_append, h]
    rfl
theorem zln_dec (ws : List Int32) (u : Int32) : ∀ (l run : List Int32) (P : zPr), P.2.1.length = P.2.2.1.length → (zdec ws u run l P).2.1.length = (zdec ws u run l P).2.2.1.length
  | [], run, P, h => by unfold zdec; exact zln_seg ws run P h
  | c :: cs, run, P, h => by
    unfold zdec
    split
    · exact zln_dec ws u cs _ P h
    · exact zln_dec ws u cs [] _ (zln_seg ws run P h)
theorem zln_P (S : zNow) : (zPn S).2.1.length = (zPn S).2.2.1.length := zln_dec _ _ _ _ _ rfl
/-- digest -/
def zst31 (y : Int64) (x : Int32) : Int64 := 31 * y + x.toInt64
def aDig (A : zAb) : Int64 :=
  zdgW A.2.1.2.2.2.2.1 (zPn A.2.1).2.2.2.1 A.2.1.2.2.2.2.1.length 0 (zdgS (zPn A.2.1).2.1 (zPn A.2.1).2.2.1 (zPn A.2.1).2.2.1.length 0 (zhash (zPn A.2.1).1 (zhash A.2.1.2.1
    ([nI A.2.1.1.length, nI A.2.1.2.1.length, A.2.1.2.2.2.2.2.1, 200 - nI (A.2.1.2.2.2.1.count (-1)), nI A.2.1.2.2.2.2.1.length, nI (zPn A.2.1).1.length, nI (zPn A.2.1).2.2.1.length, nI ((zPn A.2.1).2.2.1.count 2 + (zPn A.2.1).2.2.1.count 3), nI (zdbs A.2.1), (zPn A.2.1).2.2.2.2.2.1, (zPn A.2.1).2.2.2.2.2.2, (zPn A.2.1).2.2.2.2.1, nI (zwrong (zPn A.2.1).1 A.2.1.2.2.1), aBest A].foldl zst31 8139))))
theorem cq_dig {v : zTR} {A : zAb} (h : zcR v A) (hk : zok A) : zf_X7_digest 10000 v = some (aDig A) := by
  have hl := h.2.2.1.2.2.1.2.1
  have l1 := h.2.1.1.2.2.1.2.1
  have l2 := h.2.2.1.1.2.1
  unfold zf_X7_digest
  simp only [zlet_eq, cq_sent h, cq_recv h, cq_shift h, cq_faults h, cq_words h, cq_prLen h, cq_segs h, cq_guess h, cq_doubt h, cq_bells h, cq_quest h, cq_rshift h, cq_wrong h, cq_best h hk, Option.bind_some]
  rw [zp_hash h.2.1.1.2.2.1 (by omega), Option.bind_some, zp_hash h.2.2.1.1 (by omega), Option.bind_some]
  have := zg_dS h hk (zln_P A.2.1) (zPn A.2.1).2.2.1.length 0 10000
  rw [nI_0] at this
  rw [this _ (by omega) (by omega)]
  rfl
end ZG
