/-! ===== the pure part: what the law counts hangs together ===== -/
section ZLH
theorem zh_bd {α β : Type} {x : Option α} {a : α} {F : α → Option β} {r : Option β} (h : x = some a) (g : F a = r) : x.bind F = r := by rw [h]; exact g
theorem zh_let {α β : Type} {x : α} {F : α → Option β} {r : Option β} (g : F x = r) : zlet x F = r := g
theorem zh_if {α : Type} {c : Prop} [Decidable c] {a b r : Option α} (h : c) (g : a = r) : (if c then a else b) = r := by rw [if_pos h]; exact g
theorem zh_nf {α : Type} {c : Prop} [Decidable c] {a b r : Option α} (h : ¬ c) (g : b = r) : (if c then a else b) = r := by rw [if_neg h]; exact g
theorem zin_s {i n : Nat} (h : i < n) (hn : n < 2 ^ 31) : zin (nI i) n = some i := by
  unfold zin
  rw [if_neg (nI_pos (by omega)), nI_clamp (by omega), if_pos h]
theorem zin_b {i n : Nat} (h : n ≤ i) (hi : i < 2 ^ 31) : zin (nI i) n = none := by
  unfold zin
  rw [if_neg (nI_pos hi), nI_clamp hi, if_neg (by omega)]
theorem zin_n {a : Int32} {n : Nat} (h : a < 0) : zin a n = none := if_pos h
theorem zh_ok {X : Option (Int32 × Int32)} {l : List Int32} {i : Nat} (hX : X = some (zidx (nI i) l)) (hi : i < l.length) (hl : l.length < 2 ^ 31) : (X.bind fun b => if b.1 = 0 then some b.2 else if b.1 = 1 then some (-2 : Int32) else none) = some (l.getD i 0) := by
  rw [hX, Option.bind_some]
  unfold zidx
  rw [zin_s hi hl]
  exact if_pos rfl
theorem zh_no {X : Option (Int32 × Int32)} {l : List Int32} {a : Int32} (hX : X = some (zidx a l)) (hz : zin a l.length = none) : (X.bind fun b => if b.1 = 0 then some b.2 else if b.1 = 1 then some (-2 : Int32) else none) = some (-2) := by
  rw [hX, Option.bind_some]
  unfold zidx
  rw [hz]
  exact (if_neg z10).trans (if_pos rfl)
theorem zr_31 {A : zAb} (hk : zok A) : A.2.1.2.1.length ≤ 200 := Nat.le_trans hk.2.2.1.2.1 hk.2.2.1.1
theorem zh_rc {v : zTR} {A : zAb} (h : zcR v A) (hk : zok A) {i : Nat} (hi : i < A.2.1.2.1.length) : zf_L_receivedCode 10000 v (nI i) = some (A.2.1.2.1.getD i 0) :=
  zh_ok (cq_recvCode h (nI i)) hi (by have := zr_31 hk; omega)
theorem zq_rng : ∀ k : Nat, k < 32 → ¬ nI k < 0 ∧ ¬ (32 : Int32) ≤ nI k ∧ (zsg (nI k) = true → ¬ nI k ≤ 0 ∧ ¬ (27 : Int32) ≤ nI k) ∧ (zsg (nI k) = false → nI k ≤ 0 ∨ (27 : Int32) ≤ nI k) := by decide +kernel
theorem zsg_f {c : Int32} (hg : ¬ zsg c = true) : zsg c = false := by
  cases h : zsg c with
  | true => exact absurd h hg
  | false => rfl
abbrev zh_T96 : Type := Int32 → Int32 → Int32 → Int32 → Int32 → Int32 → Int32 → Int32 → Int32 → Int32 → zTR → Option Int32
theorem zh_b132 (rec : zh_T96) {c : Int32} (hc : zcd c) (hg : zsg c = true) (y1 y2 y3 : Int32) (p w q s : Nat) (b : Bool) (i : Nat) (v : zTR) : zf_L_hangs_b132 10000 250 rec y1 y2 y3 (nI p) (nI w) (nI q) (nI s) (if b = true then 1 else 0) (nI i) c 1 v = rec y1 y2 y3 1 (nI (p + 1)) (nI w) (nI q) (nI (s + if b = false then 1 else 0)) 1 (nI (i + 1)) v := by
  obtain ⟨n27, n29⟩ := zq_sg hc hg
  obtain ⟨k, hk, rfl⟩ := hc
  obtain ⟨r1, r2, -, -⟩ := zq_rng k hk
  unfold zf_L_hangs_b132
  rw [if_neg r1, if_neg r2]
  unfold zf_L_hangs_b151
  rw [if_neg z10]
  unfold zf_L_hangs_b165
  rw [zlet_eq, if_neg (fun e => n27 (Or.inl e)), if_neg (fun e => n27 (Or.inr e)), nI_1]
  unfold zf_L_hangs_b189
  rw [zlet_eq, if_neg n29, Int32.add_zero]
  unfold zf_L_hangs_b206
  rw [zlet_eq, if_neg z10, Int32.add_zero]
  cases b with
  | true =>
    rw [if_pos rfl, if_neg z10]
    unfold zf_L_hangs_b225 zf_L_hangs_b226
    rw [zlet_eq, zlet_eq, Int32.add_zero, nI_1]
    rfl
  | false =>
    rw [if_neg (show ¬ false = true by decide), if_pos rfl]
    unfold zf_L_hangs_b226
    rw [zlet_eq, zlet_eq, nI_1, nI_1]
    rfl
theorem zh_b131 (rec : zh_T96) {c : Int32} (hc : zcd c) (y1 y2 y3 : Int32) (p w q s : Nat) (y9 : Int32) (i : Nat) (v : zTR) : zf_L_hangs_b131 10000 250 rec y1 y2 y3 (nI p) (nI w) (nI q) (nI s) y9 (nI i) c v = rec y1 y2 y3 1 (nI p) (nI (w + if c = 27 ∨ c = 28 then 1 else 0)) (nI (q + if c = 29 then 1 else 0)) (nI s) 0 (nI (i + 1)) v := by
  obtain ⟨k, hk, rfl⟩ := hc
  obtain ⟨r1, r2, -, -⟩ := zq_rng k hk
  have b206 : ∀ x49 x51 : Int32, zf_L_hangs_b206 10000 250 rec y1 y2 y3 1 (nI p) x49 (nI s) y9 (nI i) 0 x51 0 v = rec y1 y2 y3 1 (nI p) x49 x51 (nI s) 0 (nI (i + 1)) v := by
    intro x49 x51
    unfold zf_L_hangs_b206
    rw [zlet_eq, if_pos rfl, Int32.add_zero]
    unfold zf_L_hangs_b225 zf_L_hangs_b226
    rw [zlet_eq, zlet_eq, Int32.add_zero, nI_1]
  have b206' : ∀ x49 : Int32, zf_L_hangs_b206 10000 250 rec y1 y2 y3 1 (nI p) x49 (nI s) y9 (nI i) 0 (nI q) 1 v = rec y1 y2 y3 1 (nI p) x49 (nI (q + 1)) (nI s) 0 (nI (i + 1)) v := by
    intro x49
    unfold zf_L_hangs_b206
    rw [zlet_eq, if_pos rfl, nI_1]
    unfold zf_L_hangs_b225 zf_L_hangs_b226
    rw [zlet_eq, zlet_eq, Int32.add_zero, nI_1]
  have b189 : ∀ x : Int32, zf_L_hangs_b189 10000 250 rec y1 y2 y3 1 (nI p) (nI q) (nI s) y9 (nI i) (nI k) 0 (nI w) x v = rec y1 y2 y3 1 (nI p) (nI w + x) (nI (q + if nI k = 29 then 1 else 0)) (nI s) 0 (nI (i + 1)) v := by
    intro x
    unfold zf_L_hangs_b189
    rw [zlet_eq]
    by_cases h29 : nI k = 29
    · rw [if_pos h29, if_pos h29]
      exact b206' _
    · rw [if_neg h29, if_neg h29]
      exact b206 _ _
  unfold zf_L_hangs_b131 zf_L_hangs_b132
  rw [if_neg r1, if_neg r2]
  unfold zf_L_hangs_b151
  rw [if_pos rfl]
  unfold zf_L_hangs_b165 zf_L_hangs_b184
  rw [zlet_eq, Int32.add_zero]
  by_cases h27 : nI k = 27
  · rw [if_pos h27, if_pos (Or.inl h27), b189, nI_1]
  · rw [if_neg h27]
    by_cases h28 : nI k = 28
    · rw [if_pos h28, if_pos (Or.inr h28), b189, nI_1]
    · rw [if_neg h28, if_neg (fun h => h.elim h27 h28), b189, Int32.add_zero]
      rfl
theorem zh_L96 {v : zTR} {A : zAb} (h : zcR v A) (hk : zok A) (y2 y3 : Int32) : ∀ (d i n p w q s : Nat) (b : Bool), i + d = A.2.1.2.1.length → d < n → zf_L_hangs_L96 10000 250 n (nI A.2.1.2.1.length) y2 y3 1 (nI p) (nI w) (nI q) (nI s) (if b = true then 1 else 0) (nI i) v = zf_L_hangs_b239 10000 250 (nI A.2.1.2.1.length) y2 y3 1 (nI (p + zqP (A.2.1.2.1.drop i))) (nI (w + zqW (A.2.1.2.1.drop i))) (nI (q + zqC (A.2.1.2.1.drop i))) (nI (s + zqS b (A.2.1.2.1.drop i))) v
  | d, i, 0, p, w, q, s, b, hd, hn => absurd hn (Nat.not_lt_zero _)
  | 0, i, n + 1, p, w, q, s, b, hd, hn => by
    have h200 := zr_31 hk
    unfold zf_L_hangs_L96
    rw [if_pos (nI_le (by omega) (by omega)), List.drop_of_length_le (by omega)]
    rfl
  | d + 1, i, n + 1, p, w, q, s, b, hd, hn => by
    have h200 := zr_31 hk
    have hi : i < A.2.1.2.1.length := by omega
    have hc := hk.2.2.1.2.2.2.1 _ (List.getElem_mem hi)
    have hx : A.2.1.2.1.getD i 0 = A.2.1.2.1[i] := by rw [List.getD_eq_getElem?_getD, List.getElem?_eq_getElem hi]; rfl
    unfold zf_L_hangs_L96
    rw [if_neg (nI_ge hi (by omega)), if_neg z10, zh_rc h hk hi, Option.bind_some, hx, List.drop_eq_getElem_cons hi]
    unfold zqP zqW zqC zqS
    by_cases hg : zsg A.2.1.2.1[i] = true
    · obtain ⟨r1, r2⟩ : ¬ A.2.1.2.1[i] ≤ 0 ∧ ¬ (27 : Int32) ≤ A.2.1.2.1[i] := by
        obtain ⟨k, hk2, e⟩ := hc
        rw [e] at hg ⊢
        exact (zq_rng k hk2).2.2.1 hg
      rw [if_neg r1, if_neg r2, zh_b132 _ hc hg]
      have := zh_L96 h hk y2 y3 d (i + 1) n (p + 1) w q (s + if b = false then 1 else 0) true (by omega) (by omega)
      rw [if_pos rfl] at this
      rw [this, if_pos hg, if_neg (zq_sg hc hg).1, if_neg (zq_sg hc hg).2, hg]
      have e1 : p + 1 + zqP (A.2.1.2.1.drop (i + 1)) = p + (1 + zqP (A.2.1.2.1.drop (i + 1))) := by omega
      have e2 : (s + if b = false then 1 else 0) + zqS true (A.2.1.2.1.drop (i + 1)) = s + ((if true = true ∧ b = false then 1 else 0) + zqS true (A.2.1.2.1.drop (i + 1))) := by
        cases b <;> simp only [Bool.true_eq_false, and_false, and_self, ↓reduceIte] <;> omega
      rw [e1, e2, Nat.zero_add, Nat.zero_add]
    · have hf := zsg_f hg
      have hr : A.2.1.2.1[i] ≤ 0 ∨ (27 : Int32) ≤ A.2.1.2.1[i] := by
        obtain ⟨k, hk2, e⟩ := hc
        rw [e] at hf ⊢
        exact (zq_rng k hk2).2.2.2 hf
      have key : zf_L_hangs_b131 10000 250 (zf_L_hangs_L96 10000 250 n) (nI A.2.1.2.1.length) y2 y3 (nI p) (nI w) (nI q) (nI s) (if b = true then 1 else 0) (nI i) A.2.1.2.1[i] v = zf_L_hangs_b239 10000 250 (nI A.2.1.2.1.length) y2 y3 1 (nI (p + ((if zsg A.2.1.2.1[i] = true then 1 else 0) + zqP (A.2.1.2.1.drop (i + 1))))) (nI (w + ((if A.2.1.2.1[i] = 27 ∨ A.2.1.2.1[i] = 28 then 1 else 0) + zqW (A.2.1.2.1.drop (i + 1))))) (nI (q + ((if A.2.1.2.1[i] = 29 then 1 else 0) + zqC (A.2.1.2.1.drop (i + 1))))) (nI (s + ((if zsg A.2.1.2.1[i] = true ∧ b = false then 1 else 0) + zqS (zsg A.2.1.2.1[i]) (A.2.1.2.1.drop (i + 1))))) v := by
        rw [zh_b131 _ hc]
        have := zh_L96 h hk y2 y3 d (i + 1) n p (w + if A.2.1.2.1[i] = 27 ∨ A.2.1.2.1[i] = 28 then 1 else 0) (q + if A.2.1.2.1[i] = 29 then 1 else 0) s false (by omega) (by omega)
        rw [if_neg (show ¬ false = true by decide)] at this
        rw [this, if_neg hg, if_neg (show ¬ (zsg A.2.1.2.1[i] = true ∧ b = false) from fun e => hg e.1), hf, Nat.zero_add, Nat.zero_add, Nat.add_assoc, Nat.add_assoc]
      by_cases r1 : A.2.1.2.1[i] ≤ 0
      · rw [if_pos r1]; exact key
      · rw [if_neg r1, if_pos (hr.resolve_left r1)]; exact key
/-- segments -/
theorem zq_k6 : ∀ k : Nat, k < 6 → ¬ nI k < 0 ∧ ¬ (6 : Int32) ≤ nI k ∧ (nI k >>> ((1 : Int32) &&& 31)) &&& (1 : Int32) = nI ((if nI k = 2 then 1 else 0) + (if nI k = 3 then 1 else 0)) ∧ (nI k >>> ((2 : Int32) &&& 31)) &&& (1 : Int32) = nI ((if nI k = 4 then 1 else 0) + (if nI k = 5 then 1 else 0)) := by decide +kernel
theorem zq_cc (x : Int32) (l : List Int32) (a : Int32) : (x :: l).count a = (if x = a then 1 else 0) + l.count a := by
  rw [List.count_cons, Nat.add_comm]
  simp only [beq_iff_eq]
theorem zh_kl {A : zAb} (hk : zok A) : (zPn A.2.1).2.2.1.length ≤ 200 := by
  obtain ⟨-, -, -, -, -, -, -, q8, -, q10, -⟩ := zPn_q hk.2.2.1
  have h1 := zqS_le A.2.1.2.1 false
  have h2 := zqP_le A.2.1.2.1 hk.2.2.1.2.2.2.1
  have h3 := zr_31 hk
  omega
theorem zh_sk {v : zTR} {A : zAb} (h : zcR v A) (hk : zok A) {i : Nat} (hi : i < (zPn A.2.1).2.2.1.length) : zf_L_segmentKind 10000 v (nI i) = some ((zPn A.2.1).2.2.1.getD i 0) :=
  zh_ok (cq_segKind h (nI i)) hi (by have := zh_kl hk; omega)
theorem zh_sl {v : zTR} {A : zAb} (h : zcR v A) (hk : zok A) {i : Nat} (hi : i < (zsgs 0 0 A.2.1.2.1).length) : zf_L_segmentLength 10000 v (nI i) = some (nI ((zsgs 0 0 A.2.1.2.1)[i]).2) := by
  obtain ⟨-, -, -, -, -, -, q7, q8, -⟩ := zPn_q hk.2.2.1
  have hl := zh_kl hk
  have e : (zPn A.2.1).2.1.getD i 0 = nI ((zsgs 0 0 A.2.1.2.1)[i]).2 := by
    rw [q7, List.getD_eq_getElem?_getD, List.getElem?_map, List.getElem?_eq_getElem hi]
    rfl
  rw [← e]
  exact zh_ok (cq_segLen h (nI i)) (by rw [q7, List.length_map]; exact hi) (by rw [q7, List.length_map]; omega)
abbrev zh_T254 : Type := Int32 → Int32 → Int32 → Int32 → Int32 → Int32 → Int32 → Int32 → Int32 → Int32 → Int32 → Int32 → Int32 → zTR → Option Int32
theorem zh_b299 (rec : zh_T254) {v : zTR} {A : zAb} (h : zcR v A) (hk : zok A) {i : Nat} (hi : i < (zsgs 0 0 A.2.1.2.1).length) {x : Int32} (hx : ∃ k : Nat, k < 6 ∧ x = nI k) (y1 y2 y3 y5 y6 y7 y8 : Int32) (s g dt lt : Nat) : zf_L_hangs_b299 10000 250 rec y1 y2 y3 y5 y6 y7 y8 (nI s) (nI g) (nI dt) (nI lt) (nI i) x 1 v = rec y1 y2 y3 1 y5 y6 y7 y8 (nI (s + ((zsgs 0 0 A.2.1.2.1)[i]).2)) (nI (g + ((if x = 2 then 1 else 0) + (if x = 3 then 1 else 0)))) (nI (dt + ((if x = 4 then 1 else 0) + (if x = 5 then 1 else 0)))) (nI (lt + ((if x = 0 then 1 else 0) + (if x = 2 then 1 else 0)))) (nI (i + 1)) v := by
  obtain ⟨k, hk6, rfl⟩ := hx
  obtain ⟨-, -, e1, e2⟩ := zq_k6 k hk6
  unfold zf_L_hangs_b299
  rw [zh_sl h hk hi, Option.bind_some, zlet_eq, zlet_eq, zlet_eq, nI_add, e1, e2, nI_add, nI_add]
  unfold zf_L_hangs_b347 zf_L_hangs_b352
  by_cases h0 : nI k = 0
  · rw [if_pos h0, zlet_eq, zlet_eq, nI_1, nI_1, if_pos h0, if_neg (show ¬ nI k = 2 by rw [h0]; decide)]
  · rw [if_neg h0, if_neg h0]
    by_cases h2 : nI k = 2
    · rw [if_pos h2, zlet_eq, zlet_eq, nI_1, nI_1, if_pos h2]
    · rw [if_neg h2, zlet_eq, zlet_eq, Int32.add_zero, nI_1, if_neg h2]
      rfl
theorem zqN_cons (p : Nat × Nat) (t : List (Nat × Nat)) : zqN (p :: t) = p.2 + zqN t := rfl
theorem zh_L254 {v : zTR} {A : zAb} (h : zcR v A) (hk : zok A) (y1 y2 y5 y6 y7 y8 : Int32) : ∀ (d i n s g dt lt : Nat), i + d = (zPn A.2.1).2.2.1.length → d < n → zf_L_hangs_L254 10000 250 n y1 y2 (nI (zPn A.2.1).2.2.1.length) 1 y5 y6 y7 y8 (nI s) (nI g) (nI dt) (nI lt) (nI i) v = zf_L_hangs_b361 10000 250 y1 y2 (nI (zPn A.2.1).2.2.1.length) 1 y5 y6 y7 y8 (nI (s + zqN ((zsgs 0 0 A.2.1.2.1).drop i))) (nI (g + (((zPn A.2.1).2.2.1.drop i).count 2 + ((zPn A.2.1).2.2.1.drop i).count 3))) (nI (dt + (((zPn A.2.1).2.2.1.drop i).count 4 + ((zPn A.2.1).2.2.1.drop i).count 5))) (nI (lt + (((zPn A.2.1).2.2.1.drop i).count 0 + ((zPn A.2.1).2.2.1.drop i).count 2))) v
  | d, i, 0, s, g, dt, lt, hd, hn => absurd hn (Nat.not_lt_zero _)
  | 0, i, n + 1, s, g, dt, lt, hd, hn => by
    have hl := zh_kl hk
    obtain ⟨-, -, -, -, -, -, -, q8, -⟩ := zPn_q hk.2.2.1
    unfold zf_L_hangs_L254
    rw [if_pos (nI_le (by omega) (by omega)), List.drop_of_length_le (by omega), List.drop_of_length_le (by omega)]
    rfl
  | d + 1, i, n + 1, s, g, dt, lt, hd, hn => by
    have hl := zh_kl hk
    obtain ⟨-, -, -, -, q5, -, -, q8, -, -, q11⟩ := zPn_q hk.2.2.1
    have hi : i < (zPn A.2.1).2.2.1.length := by omega
    have hi2 : i < (zsgs 0 0 A.2.1.2.1).length := by omega
    have hx6 := q5 _ (List.getElem_mem hi)
    have hpos := (q11 _ (List.getElem_mem hi2)).1
    have hle := (q11 _ (List.getElem_mem hi2)).2
    have h200 := zr_31 hk
    have hx : (zPn A.2.1).2.2.1.getD i 0 = (zPn A.2.1).2.2.1[i] := by rw [List.getD_eq_getElem?_getD, List.getElem?_eq_getElem hi]; rfl
    obtain ⟨r1, r2⟩ : ¬ (zPn A.2.1).2.2.1[i] < 0 ∧ ¬ (6 : Int32) ≤ (zPn A.2.1).2.2.1[i] := by
      obtain ⟨k, hk6, e⟩ := hx6
      rw [e]
      exact ⟨(zq_k6 k hk6).1, (zq_k6 k hk6).2.1⟩
    unfold zf_L_hangs_L254
    rw [if_neg (nI_ge hi (by omega)), if_neg z10, zh_sk h hk hi, Option.bind_some, hx, if_neg r1, if_neg r2, zh_sl h hk hi2, Option.bind_some, if_neg (nI_nle hpos (by omega)), zh_b299 _ h hk hi2 hx6, zh_L254 h hk y1 y2 y5 y6 y7 y8 d (i + 1) n _ _ _ _ (by omega) (by omega), List.drop_eq_getElem_cons hi, List.drop_eq_getElem_cons hi2, zqN_cons, zq_cc, zq_cc, zq_cc, zq_cc, zq_cc]
    congr 2 <;> omega
/-- words -/
theorem zh_us {v : zTR} {A : zAb} (h : zcR v A) (hk : zok A) {i : Nat} (hi : i < A.2.1.2.2.2.2.1.length) : zf_L_uses 10000 v (nI i) = some (nI ((zPn A.2.1).2.2.2.1.count (nI i))) := by
  have h20 := hk.2.2.1.2.2.2.2.2.2.1
  unfold zf_L_uses
  rw [cq_uses h, Option.bind_some]
  unfold aUse
  rw [zin_s hi (by omega)]
  exact if_pos rfl
theorem zh_L367 {v : zTR} {A : zAb} (h : zcR v A) (hk : zok A) (y1 y2 y3 y5 y6 y7 y8 y10 y11 y12 y13 : Int32) : ∀ (d i n s : Nat), i + d = A.2.1.2.2.2.2.1.length → d < n → zf_L_hangs_L367 10000 250 n y1 y2 y3 1 y5 y6 y7 y8 y10 y11 y12 y13 (nI s) (nI i) v = zf_L_hangs_b398 10000 250 y1 y2 y3 1 y5 y6 y7 y8 y10 y11 y12 y13 (nI (s + zqU (zPn A.2.1).2.2.2.1 d i)) v
  | d, i, 0, s, hd, hn => absurd hn (Nat.not_lt_zero _)
  | 0, i, n + 1, s, hd, hn => by
    have h20 := hk.2.2.1.2.2.2.2.2.2.1
    unfold zf_L_hangs_L367
    rw [cq_words h, Option.bind_some, if_pos (nI_le (by omega) (by omega))]
    rfl
  | d + 1, i, n + 1, s, hd, hn => by
    have h20 := hk.2.2.1.2.2.2.2.2.2.1
    unfold zf_L_hangs_L367
    rw [cq_words h, Option.bind_some, if_neg (nI_ge (by omega) (by omega)), if_neg z10, zh_us h hk (by omega), Option.bind_some, zlet_eq, zlet_eq, nI_add, nI_1, zh_L367 h hk y1 y2 y3 y5 y6 y7 y8 y10 y11 y12 y13 d (i + 1) n _ (by omega) (by omega), Nat.add_assoc]
    rfl
/-- characters -/
theorem zh_pl {A : zAb} (hk : zok A) : (zPn A.2.1).1.length ≤ A.2.1.2.1.length := by
  obtain ⟨q1, -⟩ := zPn_q hk.2.2.1
  have h2 := zqP_le A.2.1.2.1 hk.2.2.1.2.2.2.1
  omega
theorem zh_pr {v : zTR} {A : zAb} (h : zcR v A) (hk : zok A) {i : Nat} (hi : i < (zPn A.2.1).1.length) : zf_L_printed 10000 v (nI i) = some ((zPn A.2.1).1.getD i 0) :=
  zh_ok (cq_printed h (nI i)) hi (by have := zr_31 hk; have := zh_pl hk; omega)
theorem zh_L401 {v : zTR} {A : zAb} (h : zcR v A) (hk : zok A) (y1 y3 y5 y6 y7 y8 y10 y11 y12 y13 y14 : Int32) : ∀ (d i n : Nat), i + d = (zPn A.2.1).1.length → d < n → zf_L_hangs_L401 10000 250 n y1 (nI (zPn A.2.1).1.length) y3 1 y5 y6 y7 y8 y10 y11 y12 y13 y14 (nI i) v = zf_L_hangs_b454 10000 250 y1 (nI (zPn A.2.1).1.length) y3 1 y5 y6 y7 y8 y10 y11 y12 y13 y14 v
  | d, i, 0, hd, hn => absurd hn (Nat.not_lt_zero _)
  | 0, i, n + 1, hd, hn => by
    have h200 := zr_31 hk
    have hpl := zh_pl hk
    unfold zf_L_hangs_L401
    rw [if_pos (nI_le (by omega) (by omega))]
  | d + 1, i, n + 1, hd, hn => by
    have h200 := zr_31 hk
    have hpl := zh_pl hk
    have hi : i < (zPn A.2.1).1.length := by omega
    have hx : (zPn A.2.1).1.getD i 0 = (zPn A.2.1).1[i] := by rw [List.getD_eq_getElem?_getD, List.getElem?_eq_getElem hi]; rfl
    have hq := (zPn_q hk.2.2.1).2.2.1 _ (List.getElem_mem hi)
    have key : zf_L_hangs_b441 10000 250 (zf_L_hangs_L401 10000 250 n) y1 (nI (zPn A.2.1).1.length) y3 y5 y6 y7 y8 y10 y11 y12 y13 y14 (nI i) v = zf_L_hangs_b454 10000 250 y1 (nI (zPn A.2.1).1.length) y3 1 y5 y6 y7 y8 y10 y11 y12 y13 y14 v := by
      unfold zf_L_hangs_b441 zf_L_hangs_b446
      rw [zlet_eq, nI_1]
      exact zh_L401 h hk y1 y3 y5 y6 y7 y8 y10 y11 y12 y13 y14 d (i + 1) n (by omega) (by omega)
    unfold zf_L_hangs_L401
    rw [if_neg (nI_ge hi (by omega)), if_neg z10, zh_pr h hk hi, Option.bind_some, hx]
    unfold zqc at hq
    rw [Bool.or_eq_true, Bool.and_eq_true, decide_eq_true_eq, decide_eq_true_eq, decide_eq_true_eq] at hq
    by_cases e : (zPn A.2.1).1[i] = 10
    · rw [if_pos e]; exact key
    · obtain ⟨q1, q2⟩ := hq.resolve_left e
      rw [if_neg e, if_neg (Int32.not_lt.mpr q1), if_neg (Int32.not_le.mpr q2)]
      exact key
/-- the best repair -/
theorem ztf_v (cut : Nat → Int32) : ∀ d i : Nat, ztf cut d i = -1 ∨ ∃ j : Nat, i ≤ j ∧ j < i + d ∧ cut j = -1 ∧ ztf cut d i = 2 * nI j
  | 0, _ => Or.inl rfl
  | d + 1, i => by
    unfold ztf
    by_cases e : cut i = -1
    · rw [if_pos e]
      exact Or.inr ⟨i, Nat.le_refl _, by omega, e, rfl⟩
    · rw [if_neg e]
      rcases ztf_v cut d (i + 1) with h | ⟨j, h1, h2, h3, h4⟩
      · exact Or.inl h
      · exact Or.inr ⟨j, by omega, by omega, h3, h4⟩
theorem aBest_v (A : zAb) : aBest A = -1 ∨ ∃ j : Nat, j ≤ A.2.1.2.1.length ∧ zcut (A.2.1.2.2.2.2.1.map zpk) A.2.1.2.1 j = -1 ∧ aBest A = nI (2 * j) := by
  unfold aBest
  rw [zbr_tf (zcut_v _ _)]
  rcases ztf_v (zcut (A.2.1.2.2.2.2.1.map zpk) A.2.1.2.1) (A.2.1.2.1.length + 1) 0 with h | ⟨j, -, h2, h3, h4⟩
  · exact Or.inl h
  · exact Or.inr ⟨j, by omega, h3, by rw [h4, show (2 : Int32) = nI 2 from by decide, pk_mul]⟩
theorem zdbs_pos {A : zAb} (hk : zok A) {j : Nat} (hj : j ≤ A.2.1.2.1.length) (hc : zcut (A.2.1.2.2.2.2.1.map zpk) A.2.1.2.1 j = -1) : ∃ m : Nat, zdbs A.2.1 = m + 1 := by
  have e := zdw_cut A.2.1 hj
  have h200 := zr_31 hk
  have hw := zdw_le A.2.1 hj
  rw [hc] at e
  rcases Nat.eq_zero_or_pos (zdbs A.2.1) with h0 | h0
  · rw [h0, nI_0, Int32.zero_add] at e
    exact absurd e.symm (znI_n1 (by omega))
  · exact ⟨zdbs A.2.1 - 1, by omega⟩
theorem zh_dw {v : zTR} {A : zAb} (h : zcR v A) (hk : zok A) {j : Nat} (hj : j ≤ A.2.1.2.1.length) : zf_L_doubtfulWith 10000 v (nI j) 30 = some (nI (zdbs A.2.1) + zcut (A.2.1.2.2.2.2.1.map zpk) A.2.1.2.1 j) := by
  have h200 := zr_31 hk
  unfold zf_L_doubtfulWith
  rw [cq_dwt h hk, Option.bind_some]
  unfold aDwt
  rw [zin_s (show j < A.2.1.2.1.length + 1 by omega) (by omega)]
  simp only [if_pos (show (30 : Int32) = 30 ∨ (30 : Int32) = 31 from Or.inl rfl)]
  exact if_pos rfl
theorem zcut_n (ws l : List Int32) : zcut ws l l.length = 0 := by
  unfold zcut
  by_cases e : zst l l.length = l.length
  · rw [if_pos e]
  · rw [if_neg e, if_pos]
    unfold zen
    rw [List.drop_length]
    rfl
theorem zdbs_k {A : zAb} : zdbs A.2.1 ≤ (zPn A.2.1).2.2.1.length := zcount2 _ (by decide)
theorem zmis_le (p w : List Int32) : ∀ d i : Nat, zmis p w d i ≤ d
  | 0, _ => Nat.le_refl _
  | d + 1, i => by
    have := zmis_le p w d (i + 1)
    unfold zmis
    split <;> omega
theorem zh_b720 {v : zTR} {A : zAb} (h : zcR v A) (hk : zok A) : zf_L_hangs_b720 10000 250 (nI A.2.1.2.1.length) (nI (zdbs A.2.1)) v = some 1 := by
  unfold zf_L_hangs_b720
  rw [zh_dw h hk (Nat.le_refl _), zcut_n, Int32.add_zero, Option.bind_some, if_pos rfl]
theorem zh_b705 {v : zTR} {A : zAb} (h : zcR v A) (hk : zok A) : zf_L_hangs_b705 10000 250 (nI A.2.1.2.1.length) (nI (zdbs A.2.1)) v = some 1 := by
  unfold zf_L_hangs_b705
  rw [cq_rshift h, Option.bind_some]
  rcases (zPn_q hk.2.2.1).2.2.2.1 with e | e
  · rw [if_pos e]; exact zh_b720 h hk
  · rw [e, if_neg z10, Option.bind_some, if_pos rfl]
    exact zh_b720 h hk
theorem zh_b659 {v : zTR} {A : zAb} (h : zcR v A) (hk : zok A) : zf_L_hangs_b659 10000 250 (nI A.2.1.2.1.length) (nI (zdbs A.2.1)) 1 v = some 1 := by
  have o3 := hk.2.2.1
  have hpl := zh_pl hk
  have h200 := zr_31 hk
  have hw : zwrong (zPn A.2.1).1 A.2.1.2.2.1 ≤ 400 := by
    have h1 := zmis_le (zPn A.2.1).1 A.2.1.2.2.1 (min (zPn A.2.1).1.length A.2.1.2.2.1.length) 0
    have h2 := o3.2.2.1
    have h3 := o3.1
    unfold zwrong
    omega
  have hct : A.2.1.2.2.2.1.count (-1) ≤ 200 := by
    have := List.count_le_length (a := (-1 : Int32)) (l := A.2.1.2.2.2.1)
    rw [o3.2.2.2.2.1] at this
    exact this
  have hf : (200 : Int32) - nI (A.2.1.2.2.2.1.count (-1)) = nI (200 - A.2.1.2.2.2.1.count (-1)) := pk_sub hct
  unfold zf_L_hangs_b659
  rw [if_neg z10, cq_wrong h, Option.bind_some, if_neg (nI_pos (by omega)), cq_faults h, Option.bind_some, hf, if_neg (nI_pos (by omega)), Option.bind_some, if_neg (show ¬ (200 : Int32) < nI (200 - A.2.1.2.2.2.1.count (-1)) from nI_nlt (a := 200) (by omega) (by omega)), cq_shift h, Option.bind_some]
  rcases o3.sh with e | e
  · rw [if_pos e]; exact zh_b705 h hk
  · rw [e, if_neg z10, Option.bind_some, if_pos rfl]
    exact zh_b705 h hk
theorem zh_b643 {v : zTR} {A : zAb} (h : zcR v A) (hk : zok A) {x : Int32} (hx : x = -1 ∨ 0 < zdbs A.2.1) : zf_L_hangs_b643 10000 250 (nI A.2.1.2.1.length) (nI (zdbs A.2.1)) x v = some 1 := by
  have hd := zdbs_k (A := A)
  have hl := zh_kl hk
  unfold zf_L_hangs_b643 zf_L_hangs_b654
  rw [zh_b659 h hk]
  rcases hx with e | e
  · rw [e, if_pos (show (-1 : Int32) = -1 from rfl)]
    split <;> rfl
  · rw [if_pos (show (0 : Int32) < nI (zdbs A.2.1) from nI_lt (a := 0) e (by omega))]
theorem zh_half : ∀ j : Nat, j < 201 → nI (2 * j) / 2 = nI j ∧ (30 : Int32) + (nI (2 * j) - nI (2 * j) / 2 * 2) = 30 ∧ ¬ nI (2 * j) = -1 ∧ ¬ nI (2 * j) < 0 := by decide +kernel
theorem zh_b589 {v : zTR} {A : zAb} (h : zcR v A) (hk : zok A) : zf_L_hangs_b589 10000 250 (nI A.2.1.2.1.length) (nI (zdbs A.2.1)) 1 v = some 1 := by
  have h200 := zr_31 hk
  have hd := zdbs_k (A := A)
  have hl := zh_kl hk
  unfold zf_L_hangs_b589
  rw [cq_best h hk, Option.bind_some, if_neg z10]
  rcases aBest_v A with e | ⟨j, h1, h2, e⟩
  · rw [if_pos e]
    exact zh_b643 h hk (Or.inl e)
  · obtain ⟨e1, e2, e3, e4⟩ := zh_half j (by omega)
    obtain ⟨m, hm⟩ := zdbs_pos hk h1 h2
    have hbig : ((2 : Int32) * nI A.2.1.2.1.length) + (2 : Int32) = nI (2 * A.2.1.2.1.length + 2) := by
      rw [show (2 : Int32) = nI 2 from by decide, pk_mul, nI_add]
    rw [e, if_neg e3, if_neg e4, hbig, if_neg (nI_ge (by omega) (by omega)), e2, e1, zh_dw h hk h1, Option.bind_some, h2, hm, pk_m1, if_neg (nI_ge (by omega) (by omega)), ← hm]
    exact zh_b643 h hk (Or.inr (by omega))
theorem zpl_1 : Op.cmpValue (FP.dcmp FP.dconst1 FP.dconst1) .l = 0 := by decide +kernel
/-- all of it -/
theorem zh_b454 {v : zTR} {A : zAb} (h : zcR v A) (hk : zok A) : zf_L_hangs_b454 10000 250 (nI A.2.1.2.1.length) (nI (zPn A.2.1).1.length) (nI (zPn A.2.1).2.2.1.length) 1 (nI (zqP A.2.1.2.1)) (nI (zqW A.2.1.2.1)) (nI (zqC A.2.1.2.1)) (nI (zqS false A.2.1.2.1)) (nI (zqN (zsgs 0 0 A.2.1.2.1))) (nI ((zPn A.2.1).2.2.1.count 2 + (zPn A.2.1).2.2.1.count 3)) (nI (zdbs A.2.1)) (nI ((zPn A.2.1).2.2.1.count 0 + (zPn A.2.1).2.2.1.count 2)) (nI (zqU (zPn A.2.1).2.2.2.1 A.2.1.2.2.2.2.1.length 0)) v = some 1 := by
  obtain ⟨q1, q2, q3, q4, q5, q6, q7, q8, q9, q10, q11⟩ := zPn_q hk.2.2.1
  have h200 := zr_31 hk
  have hd := zdbs_k (A := A)
  have hl := zh_kl hk
  have hpl := zh_pl hk
  have l7 : (zPn A.2.1).2.1.length = (zPn A.2.1).2.2.1.length := by rw [q7, List.length_map, q8]
  have m1 : zf_L_printed 10000 v (-1) = some (-2) := zh_no (cq_printed h (-1)) (zin_n (by decide))
  have m2 : zf_L_printed 10000 v (nI (zPn A.2.1).1.length) = some (-2) := zh_no (cq_printed h _) (zin_b (Nat.le_refl _) (by omega))
  have m3 : zf_L_segmentLength 10000 v (nI (zPn A.2.1).2.2.1.length) = some (-2) := zh_no (cq_segLen h _) (zin_b (by omega) (by omega))
  have m4 : zf_L_receivedCode 10000 v (-1) = some (-2) := zh_no (cq_recvCode h (-1)) (zin_n (by decide))
  unfold zf_L_hangs_b454
  rw [if_neg z10, if_pos (show nI (zqP A.2.1.2.1) = nI (zqN (zsgs 0 0 A.2.1.2.1)) by rw [q9]), if_pos (show nI (zqP A.2.1.2.1) + nI (zqW A.2.1.2.1) = nI (zPn A.2.1).1.length by rw [nI_add, q1]), if_pos (show nI (zqS false A.2.1.2.1) = nI (zPn A.2.1).2.2.1.length by rw [q8, q10]), cq_bells h, Option.bind_some, cq_quest h, Option.bind_some, if_pos q2, cq_guess h, Option.bind_some, if_pos rfl, cq_doubt h, Option.bind_some, if_pos (show nI (zdbs A.2.1) = nI ((zPn A.2.1).2.2.1.count 4 + (zPn A.2.1).2.2.1.count 5) from rfl), if_pos (show nI (zqU (zPn A.2.1).2.2.2.1 A.2.1.2.2.2.2.1.length 0) = nI ((zPn A.2.1).2.2.1.count 0 + (zPn A.2.1).2.2.1.count 2) by rw [q6]), m2, Option.bind_some, if_pos rfl, m1, Option.bind_some, if_pos rfl, m3, Option.bind_some, if_pos rfl, m4, Option.bind_some, if_pos rfl, cq_plaus h, Option.bind_some]
  unfold zpla
  by_cases h0 : (zPn A.2.1).2.2.1.length = 0
  · rw [if_pos (show nI (zPn A.2.1).2.2.1.length = 0 by rw [h0]; exact nI_0), if_pos h0]
    unfold zf_L_hangs_b580
    rw [if_pos zpl_1]
    exact zh_b589 h hk
  · have ok := zpq_ok (a := (zPn A.2.1).2.2.1.length) (c := (zPn A.2.1).2.2.1.length - zdbs A.2.1) (by omega) hl (by omega)
    rw [if_neg (nI_ne0 (by omega) (by omega)), if_neg h0, pk_sub hd]
    refine zh_if ok.1 (zh_let ?_)
    unfold zf_L_hangs_b580
    refine zh_if ok.2 ?_
    exact zh_b589 h hk
theorem zh_hangs {v : zTR} {A : zAb} (h : zcR v A) (hk : zok A) : zf_L_hangs 10000 250 v = some 1 := by
  obtain ⟨q1, q2, q3, q4, q5, q6, q7, q8, q9, q10, q11⟩ := zPn_q hk.2.2.1
  have h200 := zr_31 hk
  have hl := zh_kl hk
  have hpl := zh_pl hk
  have o3 := hk.2.2.1
  have hsl := zqS_le A.2.1.2.1 false
  have hle := zqP_le A.2.1.2.1 o3.2.2.2.1
  have h20 := o3.2.2.2.2.2.2.1
  unfold zf_L_hangs
  rw [cq_recv h, Option.bind_some, cq_prLen h, Option.bind_some, cq_segs h, Option.bind_some, if_neg (nI_pos (by omega)), cq_sent h, Option.bind_some, if_neg (nI_nlt o3.2.1 (by have := o3.1; omega)), Option.bind_some, if_neg (show ¬ (200 : Int32) < nI A.2.1.1.length from nI_nlt (a := 200) o3.1 (by omega)), cq_words h, Option.bind_some, if_neg (nI_pos (by omega)), Option.bind_some, if_neg (show ¬ (20 : Int32) < nI A.2.1.2.2.2.2.1.length from nI_nlt (a := 20) h20 (by omega)), if_neg (nI_pos (by omega)), if_neg (nI_nlt hpl (by omega)), if_neg (nI_pos (by omega)), if_neg (nI_nlt (by omega) (by omega))]
  unfold zf_L_hangs_b76
  have e1 := zh_L96 h hk (nI (zPn A.2.1).1.length) (nI (zPn A.2.1).2.2.1.length) A.2.1.2.1.length 0 250 0 0 0 0 false (Nat.zero_add _) (by omega)
  rw [if_neg (show ¬ false = true by decide), nI_0, List.drop_zero, Nat.zero_add, Nat.zero_add, Nat.zero_add, Nat.zero_add] at e1
  rw [e1]
  unfold zf_L_hangs_b239
  have e2 := zh_L254 h hk (nI A.2.1.2.1.length) (nI (zPn A.2.1).1.length) (nI (zqP A.2.1.2.1)) (nI (zqW A.2.1.2.1)) (nI (zqC A.2.1.2.1)) (nI (zqS false A.2.1.2.1)) (zPn A.2.1).2.2.1.length 0 250 0 0 0 0 (Nat.zero_add _) (by omega)
  rw [nI_0, List.drop_zero, List.drop_zero, Nat.zero_add, Nat.zero_add, Nat.zero_add, Nat.zero_add] at e2
  rw [e2]
  unfold zf_L_hangs_b361
  have e3 := zh_L367 h hk (nI A.2.1.2.1.length) (nI (zPn A.2.1).1.length) (nI (zPn A.2.1).2.2.1.length) (nI (zqP A.2.1.2.1)) (nI (zqW A.2.1.2.1)) (nI (zqC A.2.1.2.1)) (nI (zqS false A.2.1.2.1)) (nI (zqN (zsgs 0 0 A.2.1.2.1))) (nI ((zPn A.2.1).2.2.1.count 2 + (zPn A.2.1).2.2.1.count 3)) (nI ((zPn A.2.1).2.2.1.count 4 + (zPn A.2.1).2.2.1.count 5)) (nI ((zPn A.2.1).2.2.1.count 0 + (zPn A.2.1).2.2.1.count 2)) A.2.1.2.2.2.2.1.length 0 250 0 (Nat.zero_add _) (by omega)
  rw [nI_0, Nat.zero_add] at e3
  rw [e3]
  unfold zf_L_hangs_b398
  have e4 := zh_L401 h hk (nI A.2.1.2.1.length) (nI (zPn A.2.1).2.2.1.length) (nI (zqP A.2.1.2.1)) (nI (zqW A.2.1.2.1)) (nI (zqC A.2.1.2.1)) (nI (zqS false A.2.1.2.1)) (nI (zqN (zsgs 0 0 A.2.1.2.1))) (nI ((zPn A.2.1).2.2.1.count 2 + (zPn A.2.1).2.2.1.count 3)) (nI ((zPn A.2.1).2.2.1.count 4 + (zPn A.2.1).2.2.1.count 5)) (nI ((zPn A.2.1).2.2.1.count 0 + (zPn A.2.1).2.2.1.count 2)) (nI (zqU (zPn A.2.1).2.2.2.1 A.2.1.2.2.2.2.1.length 0)) (zPn A.2.1).1.length 0 250 (Nat.zero_add _) (by omega)
  rw [nI_0] at e4
  rw [e4]
  exact zh_b454 h hk
end ZLH
