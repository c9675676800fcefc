/-! ===== the pure part: what is printed, counted against the codes ===== -/
section ZQF
/-- signs; spaces and breaks; calls; starts of runs (b: the code before is a sign) -/
def zqP : List Int32 → Nat
  | [] => 0
  | c :: cs => (if zsg c = true then 1 else 0) + zqP cs
def zqW : List Int32 → Nat
  | [] => 0
  | c :: cs => (if c = 27 ∨ c = 28 then 1 else 0) + zqW cs
def zqC : List Int32 → Nat
  | [] => 0
  | c :: cs => (if c = 29 then 1 else 0) + zqC cs
def zqS : Bool → List Int32 → Nat
  | _, [] => 0
  | b, c :: cs => (if zsg c = true ∧ b = false then 1 else 0) + zqS (zsg c) cs
/-- a character that may be printed -/
def zqc (x : Int32) : Bool := decide (x = 10) || (decide (32 ≤ x) && decide (x < 123))
theorem zq_fin : ∀ k : Nat, k < 32 → ∀ s : Nat, s < 2 → (zsg (nI k) = false → zchr (nI k) (nI s) = if nI k = 27 then 32 else if nI k = 28 then 10 else -1) ∧ (zsg (nI k) = true → zqc (zchr (nI k) (nI s)) = true) := by decide +kernel
theorem zq_sgn : ∀ k : Nat, k < 32 → zsg (nI k) = true → ¬ (nI k = 27 ∨ nI k = 28) ∧ ¬ nI k = 29 := by decide +kernel
theorem zq_chr {c s : Int32} (hc : zcd c) (hs : zbit s) (hg : ¬ zsg c = true) : zchr c s = if c = 27 then 32 else if c = 28 then 10 else -1 := by
  obtain ⟨k, hk, rfl⟩ := hc
  have hg : zsg (nI k) = false := by
    cases h : zsg (nI k) with
    | true => exact absurd h hg
    | false => rfl
  rcases hs with rfl | rfl
  · exact (zq_fin k hk 0 (by omega)).1 hg
  · exact (zq_fin k hk 1 (by omega)).1 hg
theorem zq_chs {c s : Int32} (hc : zcd c) (hs : zbit s) (hg : zsg c = true) : zqc (zchr c s) = true := by
  obtain ⟨k, hk, rfl⟩ := hc
  rcases hs with rfl | rfl
  · exact (zq_fin k hk 0 (by omega)).2 hg
  · exact (zq_fin k hk 1 (by omega)).2 hg
theorem zq_sg {c : Int32} (hc : zcd c) (hg : zsg c = true) : ¬ (c = 27 ∨ c = 28) ∧ ¬ c = 29 := by
  obtain ⟨k, hk, rfl⟩ := hc
  exact zq_sgn k hk hg
theorem zsegE_bit {ws run : List Int32} {P : zPr} (hs : zbit P.2.2.2.2.1) : zbit (zsegE ws run P).2.2.2.2.1 := by
  cases run with
  | nil => exact hs
  | cons c run => exact zkd_bit hs
theorem zq_lenE (ws : List Int32) (run : List Int32) (P : zPr) : (zsegE ws run P).1.length = P.1.length + run.length := by
  cases run with
  | nil => rfl
  | cons c run =>
    show (P.1 ++ (c :: run).map _).length = _
    rw [List.length_append, List.length_map]
theorem zq_len (ws : List Int32) (u : Int32) : ∀ (l run : List Int32) (P : zPr), (∀ c ∈ l, zcd c) → zbit P.2.2.2.2.1 → (zdec ws u run l P).1.length = P.1.length + run.length + zqP l + zqW l
  | [], run, P, _, _ => by
    show (zsegE ws run P).1.length = _
    rw [zq_lenE]
    rfl
  | c :: cs, run, P, hl, hs => by
    have hc := hl c List.mem_cons_self
    have hcs : ∀ x ∈ cs, zcd x := fun x hx => hl x (List.mem_cons_of_mem _ hx)
    unfold zdec zqP zqW
    by_cases hg : zsg c = true
    · rw [if_pos hg, if_pos hg, if_neg (zq_sg hc hg).1, zq_len ws u cs _ P hcs hs, List.length_append]
      simp only [List.length_cons, List.length_nil]
      omega
    · have hb := zsegE_bit (ws := ws) (run := run) hs
      rw [if_neg hg, if_neg hg, zq_len ws u cs [] _ hcs (zd_beh hb)]
      show (if zchr c (zsegE ws run P).2.2.2.2.1 = -1 then (zsegE ws run P).1 else (zsegE ws run P).1 ++ [zchr c (zsegE ws run P).2.2.2.2.1]).length + 0 + zqP cs + zqW cs = _
      rw [zq_chr hc hb hg]
      by_cases h1 : c = 27
      · rw [if_pos h1, if_neg (by decide), if_pos (Or.inl h1), List.length_append, zq_lenE]
        simp only [List.length_cons, List.length_nil]
        omega
      · rw [if_neg h1]
        by_cases h2 : c = 28
        · rw [if_pos h2, if_neg (by decide), if_pos (Or.inr h2), List.length_append, zq_lenE]
          simp only [List.length_cons, List.length_nil]
          omega
        · rw [if_neg h2, if_pos rfl, if_neg (fun h => h.elim h1 h2), zq_lenE]
          omega
/-- bells and questions -/
theorem zsegE_cl (ws run : List Int32) (P : zPr) : (zsegE ws run P).2.2.2.2.2 = P.2.2.2.2.2 := by
  cases run with
  | nil => rfl
  | cons c run => rfl
theorem zq_call (ws : List Int32) (u : Int32) : ∀ (l run : List Int32) (P : zPr), (∀ c ∈ l, zcd c) → (zdec ws u run l P).2.2.2.2.2.1 + (zdec ws u run l P).2.2.2.2.2.2 = P.2.2.2.2.2.1 + P.2.2.2.2.2.2 + nI (zqC l)
  | [], run, P, _ => by
    show (zsegE ws run P).2.2.2.2.2.1 + (zsegE ws run P).2.2.2.2.2.2 = P.2.2.2.2.2.1 + P.2.2.2.2.2.2 + nI 0
    rw [zsegE_cl, nI_0, Int32.add_zero]
  | c :: cs, run, P, hl => by
    have hc := hl c List.mem_cons_self
    have hcs : ∀ x ∈ cs, zcd x := fun x hx => hl x (List.mem_cons_of_mem _ hx)
    unfold zdec zqC
    by_cases hg : zsg c = true
    · rw [if_pos hg, if_neg (zq_sg hc hg).2, zq_call ws u cs _ P hcs, Nat.zero_add]
    · rw [if_neg hg, zq_call ws u cs [] _ hcs]
      show (if c = 29 ∧ (zsegE ws run P).2.2.2.2.1 = 1 then (zsegE ws run P).2.2.2.2.2.1 + 1 else (zsegE ws run P).2.2.2.2.2.1) + (if c = 29 ∧ ¬ (zsegE ws run P).2.2.2.2.1 = 1 then (zsegE ws run P).2.2.2.2.2.2 + 1 else (zsegE ws run P).2.2.2.2.2.2) + nI (zqC cs) = _
      rw [zsegE_cl]
      by_cases h1 : c = 29
      · rw [if_pos h1]
        have e : nI (1 + zqC cs) = 1 + nI (zqC cs) := (nI_add 1 (zqC cs)).symm
        rw [e, ← Int32.add_assoc]
        by_cases h2 : (zsegE ws run P).2.2.2.2.1 = 1
        · rw [if_pos ⟨h1, h2⟩, if_neg (fun h => h.2 h2)]
          congr 1
          rw [Int32.add_assoc, Int32.add_assoc, Int32.add_comm 1]
        · rw [if_neg (fun h => h2 h.2), if_pos ⟨h1, h2⟩]
          congr 1
          rw [Int32.add_assoc]
      · rw [if_neg h1, if_neg (fun h => h1 h.1), if_neg (fun h => h1 h.1), Nat.zero_add]
/-- the characters -/
theorem zq_chE {ws run : List Int32} {P : zPr} (hP : ∀ x ∈ P.1, zqc x = true) (hr : ∀ c ∈ run, zcd c ∧ zsg c = true) (hs : zbit P.2.2.2.2.1) : ∀ x ∈ (zsegE ws run P).1, zqc x = true := by
  cases run with
  | nil => exact hP
  | cons c run =>
    intro x hx
    rcases List.mem_append.mp (show x ∈ P.1 ++ (c :: run).map (fun c' => zchr c' (zkd ws (c :: run) P.2.2.2.2.1 &&& 1)) from hx) with hx | hx
    · exact hP x hx
    · obtain ⟨y, hy, rfl⟩ := List.mem_map.mp hx
      exact zq_chs (hr y hy).1 (zkd_bit hs) (hr y hy).2
theorem zq_chars (ws : List Int32) (u : Int32) : ∀ (l run : List Int32) (P : zPr), (∀ c ∈ l, zcd c) → (∀ c ∈ run, zcd c ∧ zsg c = true) → (∀ x ∈ P.1, zqc x = true) → zbit P.2.2.2.2.1 → ∀ x ∈ (zdec ws u run l P).1, zqc x = true
  | [], run, P, _, hr, hP, hs => zq_chE hP hr hs
  | c :: cs, run, P, hl, hr, hP, hs => by
    have hc := hl c List.mem_cons_self
    have hcs : ∀ x ∈ cs, zcd x := fun x hx => hl x (List.mem_cons_of_mem _ hx)
    unfold zdec
    by_cases hg : zsg c = true
    · rw [if_pos hg]
      refine zq_chars ws u cs _ P hcs (fun y hy => ?_) hP hs
      rcases List.mem_append.mp hy with hy | hy
      · exact hr y hy
      · rw [List.mem_singleton.mp hy]; exact ⟨hc, hg⟩
    · rw [if_neg hg]
      have hb := zsegE_bit (ws := ws) (run := run) hs
      have hE := zq_chE (ws := ws) hP hr hs
      refine zq_chars ws u cs [] _ hcs (fun y hy => absurd hy List.not_mem_nil) (fun x hx => ?_) (zd_beh hb)
      have hx : x ∈ (if zchr c (zsegE ws run P).2.2.2.2.1 = -1 then (zsegE ws run P).1 else (zsegE ws run P).1 ++ [zchr c (zsegE ws run P).2.2.2.2.1]) := hx
      rw [zq_chr hc hb hg] at hx
      by_cases h1 : c = 27
      · rw [if_pos h1, if_neg (by decide)] at hx
        rcases List.mem_append.mp hx with hx | hx
        · exact hE x hx
        · rw [List.mem_singleton.mp hx]; decide
      · rw [if_neg h1] at hx
        by_cases h2 : c = 28
        · rw [if_pos h2, if_neg (by decide)] at hx
          rcases List.mem_append.mp hx with hx | hx
          · exact hE x hx
          · rw [List.mem_singleton.mp hx]; decide
        · rw [if_neg h2, if_pos rfl] at hx
          exact hE x hx
/-- the shift -/
theorem zq_shift (ws : List Int32) (u : Int32) : ∀ (l run : List Int32) (P : zPr), zbit P.2.2.2.2.1 → zbit (zdec ws u run l P).2.2.2.2.1
  | [], run, P, hs => zsegE_bit hs
  | c :: cs, run, P, hs => by
    unfold zdec
    by_cases hg : zsg c = true
    · rw [if_pos hg]; exact zq_shift ws u cs _ P hs
    · rw [if_neg hg]; exact zq_shift ws u cs [] _ (zd_beh (zsegE_bit hs))
/-- the kinds -/
theorem zq_kdE {ws run : List Int32} {P : zPr} (hP : ∀ x ∈ P.2.2.1, ∃ k : Nat, k < 6 ∧ x = nI k) (hs : zbit P.2.2.2.2.1) : ∀ x ∈ (zsegE ws run P).2.2.1, ∃ k : Nat, k < 6 ∧ x = nI k := by
  cases run with
  | nil => exact hP
  | cons c run =>
    intro x hx
    rcases List.mem_append.mp (show x ∈ P.2.2.1 ++ [zkd ws (c :: run) P.2.2.2.2.1] from hx) with hx | hx
    · exact hP x hx
    · rw [List.mem_singleton.mp hx]; exact zkd_val ws _ hs
theorem zq_kinds (ws : List Int32) (u : Int32) : ∀ (l run : List Int32) (P : zPr), (∀ x ∈ P.2.2.1, ∃ k : Nat, k < 6 ∧ x = nI k) → zbit P.2.2.2.2.1 → ∀ x ∈ (zdec ws u run l P).2.2.1, ∃ k : Nat, k < 6 ∧ x = nI k
  | [], run, P, hP, hs => zq_kdE hP hs
  | c :: cs, run, P, hP, hs => by
    unfold zdec
    by_cases hg : zsg c = true
    · rw [if_pos hg]; exact zq_kinds ws u cs _ P hP hs
    · rw [if_neg hg]; exact zq_kinds ws u cs [] _ (zq_kdE hP hs) (zd_beh (zsegE_bit hs))
/-- the words' uses -/
def zqU (l : List Int32) : Nat → Nat → Nat
  | 0, _ => 0
  | d + 1, i => l.count (nI i) + zqU l d (i + 1)
def zq1 (x : Int32) : Nat → Nat → Nat
  | 0, _ => 0
  | d + 1, i => (if x = nI i then 1 else 0) + zq1 x d (i + 1)
theorem zq_cnt (l : List Int32) (x a : Int32) : (l ++ [x]).count a = l.count a + (if x = a then 1 else 0) := by
  rw [List.count_append, List.count_singleton]
  simp only [beq_iff_eq]
theorem zqU_app (l : List Int32) (x : Int32) : ∀ d i : Nat, zqU (l ++ [x]) d i = zqU l d i + zq1 x d i
  | 0, _ => rfl
  | d + 1, i => by
    unfold zqU zq1
    rw [zq_cnt, zqU_app l x d (i + 1)]
    omega
theorem zqU_nil : ∀ d i : Nat, zqU [] d i = 0
  | 0, _ => rfl
  | d + 1, i => by
    unfold zqU
    rw [zqU_nil d (i + 1)]
    rfl
theorem zq1_no {x : Int32} : ∀ d i : Nat, (∀ j : Nat, i ≤ j → j < i + d → ¬ x = nI j) → zq1 x d i = 0
  | 0, _, _ => rfl
  | d + 1, i, h => by
    unfold zq1
    rw [if_neg (h i (Nat.le_refl _) (by omega)), zq1_no d (i + 1) (fun j h1 h2 => h j (by omega) (by omega))]
theorem zq1_at {j : Nat} : ∀ d i : Nat, i + d < 2 ^ 31 → i ≤ j → j < i + d → zq1 (nI j) d i = 1
  | 0, _, _, _, h => absurd h (by omega)
  | d + 1, i, hl, h1, h2 => by
    unfold zq1
    by_cases e : j = i
    · subst e
      rw [if_pos rfl, zq1_no d (j + 1) (fun k h3 h4 h5 => by have := (nI_eq (by omega) (by omega)).mp h5; omega)]
    · rw [if_neg (fun h => e ((nI_eq (by omega) (by omega)).mp h)), zq1_at d (i + 1) (by omega) (by omega) (by omega)]
theorem zfind_v (a : Int32) : ∀ (ws : List Int32) (i : Nat), zfind a ws i = -1 ∨ ∃ j : Nat, i ≤ j ∧ j < i + ws.length ∧ zfind a ws i = nI j
  | [], _ => Or.inl rfl
  | x :: xs, i => by
    rw [show zfind a (x :: xs) i = if x = a then nI i else zfind a xs (i + 1) from rfl, List.length_cons]
    by_cases e : x = a
    · rw [if_pos e]; exact Or.inr ⟨i, Nat.le_refl _, by omega, rfl⟩
    · rw [if_neg e]
      rcases zfind_v a xs (i + 1) with h | ⟨j, h1, h2, h3⟩
      · exact Or.inl h
      · exact Or.inr ⟨j, by omega, by omega, h3⟩
theorem zq_useS {ws seg : List Int32} {s : Int32} (hs : zbit s) (h20 : ws.length ≤ 20) : zq1 (if zkd ws seg s &&& 1 = 0 then zfind (zpk seg) ws 0 else -1) ws.length 0 = (if zkd ws seg s = 0 then 1 else 0) + (if zkd ws seg s = 2 then 1 else 0) := by
  have hm1 : zq1 (-1) ws.length 0 = 0 := zq1_no _ _ (fun j _ h => znI_n1 (by omega))
  have p1 : zpl ws seg 1 = zdig seg := rfl
  rcases zfind_v (zpk seg) ws 0 with h | ⟨j, h1, h2, h3⟩
  · have p0 : zpl ws seg 0 = false := by
      unfold zpl
      rw [if_pos rfl, h]
      rfl
    rw [h, show (if zkd ws seg s &&& 1 = 0 then (-1 : Int32) else -1) = -1 by split <;> rfl, hm1]
    rcases hs with rfl | rfl
    · cases hd : zdig seg with
      | true =>
        have e : zkd ws seg 0 = 3 := by
          unfold zkd
          rw [if_neg (show ¬ zpl ws seg 0 = true by rw [p0]; decide), if_pos (show (0 : Int32) = 0 from rfl), if_pos (p1.trans hd)]
          decide
        rw [e]
        decide
      | false =>
        have e : zkd ws seg 0 = 4 := by
          unfold zkd
          rw [if_neg (show ¬ zpl ws seg 0 = true by rw [p0]; decide), if_pos (show (0 : Int32) = 0 from rfl), if_neg (show ¬ zpl ws seg 1 = true by rw [p1, hd]; decide)]
          decide
        rw [e]
        decide
    · unfold zkd
      simp only [if_neg z10, p0, p1]
      cases zdig seg <;> decide
  · have p0 : zpl ws seg 0 = true := by
      unfold zpl
      rw [if_pos rfl, h3, decide_eq_false (fun e => znI_n1 (y := j) (by omega) e.symm)]
      rfl
    have hj : zq1 (zfind (zpk seg) ws 0) ws.length 0 = 1 := by
      rw [h3]
      exact zq1_at _ _ (by omega) h1 h2
    rcases hs with rfl | rfl
    · have e : zkd ws seg 0 = 0 := by
        unfold zkd
        rw [if_pos p0]
      rw [e, if_pos (by decide), hj]
      decide
    · cases hd : zdig seg with
      | true =>
        have e : zkd ws seg 1 = 1 := by
          unfold zkd
          rw [if_pos (p1.trans hd)]
        rw [e, if_neg (by decide), hm1]
        decide
      | false =>
        have e : zkd ws seg 1 = 2 := by
          unfold zkd
          rw [if_neg (fun h => by rw [p1, hd] at h; cases h), if_neg z10, if_pos p0]
          decide
        rw [e, if_pos (by decide), hj]
        decide
theorem zq_useE {ws run : List Int32} {P : zPr} (h20 : ws.length ≤ 20) (hP : zqU P.2.2.2.1 ws.length 0 = P.2.2.1.count 0 + P.2.2.1.count 2) (hs : zbit P.2.2.2.2.1) : zqU (zsegE ws run P).2.2.2.1 ws.length 0 = (zsegE ws run P).2.2.1.count 0 + (zsegE ws run P).2.2.1.count 2 := by
  cases run with
  | nil => exact hP
  | cons c run =>
    show zqU (P.2.2.2.1 ++ [if zkd ws (c :: run) P.2.2.2.2.1 &&& 1 = 0 then zfind (zpk (c :: run)) ws 0 else -1]) ws.length 0 = (P.2.2.1 ++ [zkd ws (c :: run) P.2.2.2.2.1]).count 0 + (P.2.2.1 ++ [zkd ws (c :: run) P.2.2.2.2.1]).count 2
    rw [zqU_app, zq_useS hs h20, hP, zq_cnt, zq_cnt]
    omega
theorem zq_use (ws : List Int32) (u : Int32) (h20 : ws.length ≤ 20) : ∀ (l run : List Int32) (P : zPr), zqU P.2.2.2.1 ws.length 0 = P.2.2.1.count 0 + P.2.2.1.count 2 → zbit P.2.2.2.2.1 → zqU (zdec ws u run l P).2.2.2.1 ws.length 0 = (zdec ws u run l P).2.2.1.count 0 + (zdec ws u run l P).2.2.1.count 2
  | [], run, P, hP, hs => zq_useE h20 hP hs
  | c :: cs, run, P, hP, hs => by
    unfold zdec
    by_cases hg : zsg c = true
    · rw [if_pos hg]; exact zq_use ws u h20 cs _ P hP hs
    · rw [if_neg hg]; exact zq_use ws u h20 cs [] _ (zq_useE h20 hP hs) (zd_beh (zsegE_bit hs))
/-- runs: how long in all, how many -/
def zqN : List (Nat × Nat) → Nat
  | [] => 0
  | p :: t => p.2 + zqN t
theorem zqN_app (q : List (Nat × Nat)) : ∀ p : List (Nat × Nat), zqN (p ++ q) = zqN p + zqN q
  | [] => by show zqN q = 0 + zqN q; omega
  | x :: t => by
    show x.2 + zqN (t ++ q) = x.2 + zqN t + zqN q
    rw [zqN_app q t]
    omega
theorem zq_sg1 (a r : Nat) : zqN (zsg1 a r) = r ∧ (zsg1 a r).length = if r = 0 then 0 else 1 := by
  cases r with
  | zero => rw [zsg1_0]; exact ⟨rfl, rfl⟩
  | succ r => rw [zsg1_s]; exact ⟨rfl, rfl⟩
theorem zq_sgs : ∀ (l : List Int32) (a r : Nat), zqN (zsgs a r l) = r + zqP l ∧ (zsgs a r l).length = (if r = 0 then 0 else 1) + zqS (decide (0 < r)) l
  | [], a, r => by
    unfold zsgs zqP zqS
    obtain ⟨h1, h2⟩ := zq_sg1 a r
    exact ⟨h1, h2⟩
  | c :: cs, a, r => by
    unfold zsgs zqP zqS
    by_cases hg : zsg c = true
    · obtain ⟨h1, h2⟩ := zq_sgs cs a (r + 1)
      rw [if_pos hg, if_pos hg, h1, h2, hg]
      refine ⟨by omega, ?_⟩
      rw [if_neg (Nat.succ_ne_zero r), decide_eq_true (Nat.succ_pos r)]
      by_cases hr : r = 0
      · subst hr
        rw [if_pos rfl, if_pos ⟨rfl, by decide⟩, Nat.zero_add]
      · rw [if_neg hr, if_neg (fun h => by rw [decide_eq_true (show 0 < r by omega)] at h; exact absurd h.2 (by decide)), Nat.zero_add]
    · obtain ⟨h1, h2⟩ := zq_sgs cs (a + r + 1) 0
      obtain ⟨h3, h4⟩ := zq_sg1 a r
      have hf : zsg c = false := by
        cases h : zsg c with
        | true => exact absurd h hg
        | false => rfl
      rw [if_neg hg, if_neg hg, zqN_app, List.length_append, h1, h2, h3, h4, if_neg (show ¬ (zsg c = true ∧ decide (0 < r) = false) from fun h => hg h.1), hf, if_pos (show (0 : Nat) = 0 from rfl)]
      refine ⟨by omega, ?_⟩
      rw [show decide (0 < 0) = false from rfl]
/-- all of it for what is printed now -/
theorem zPn_q {S : zNow} (hk : zokS S) : (zPn S).1.length = zqP S.2.1 + zqW S.2.1 ∧ (zPn S).2.2.2.2.2.1 + (zPn S).2.2.2.2.2.2 = nI (zqC S.2.1) ∧ (∀ x ∈ (zPn S).1, zqc x = true) ∧ zbit (zPn S).2.2.2.2.1 ∧ (∀ x ∈ (zPn S).2.2.1, ∃ k : Nat, k < 6 ∧ x = nI k) ∧ zqU (zPn S).2.2.2.1 S.2.2.2.2.1.length 0 = (zPn S).2.2.1.count 0 + (zPn S).2.2.1.count 2 ∧ (zPn S).2.1 = (zsgs 0 0 S.2.1).map (fun p => nI p.2) ∧ (zPn S).2.2.1.length = (zsgs 0 0 S.2.1).length ∧ zqN (zsgs 0 0 S.2.1) = zqP S.2.1 ∧ (zsgs 0 0 S.2.1).length = zqS false S.2.1 ∧ (∀ p ∈ zsgs 0 0 S.2.1, 0 < p.2 ∧ p.1 + p.2 ≤ S.2.1.length) := by
  have hc := hk.2.2.2.1
  have h20 : (S.2.2.2.2.1.map zpk).length ≤ 20 := by rw [List.length_map]; exact hk.2.2.2.2.2.2.1
  have hkd := zPn_kd S
  have hsg := zq_sgs S.2.1 0 0
  have huse := zq_use (S.2.2.2.2.1.map zpk) S.2.2.2.2.2.2 h20 S.2.1 [] zP0 (zqU_nil _ _) (Or.inl rfl)
  rw [List.length_map] at huse
  refine ⟨?_, ?_, zq_chars _ _ _ _ zP0 hc (fun x hx => absurd hx List.not_mem_nil) (fun x hx => absurd hx List.not_mem_nil) (Or.inl rfl), zq_shift _ _ _ _ zP0 (Or.inl rfl), zq_kinds _ _ _ _ zP0 (fun x hx => absurd hx List.not_mem_nil) (Or.inl rfl), huse, hkd.2, ?_, ?_, ?_, ?_⟩
  · have := zq_len (S.2.2.2.2.1.map zpk) S.2.2.2.2.2.2 S.2.1 [] zP0 hc (Or.inl rfl)
    rw [show (zP0.1.length + ([] : List Int32).length + zqP S.2.1 + zqW S.2.1) = zqP S.2.1 + zqW S.2.1 from by show 0 + 0 + zqP S.2.1 + zqW S.2.1 = _; omega] at this
    exact this
  · have := zq_call (S.2.2.2.2.1.map zpk) S.2.2.2.2.2.2 S.2.1 [] zP0 hc
    rw [show zP0.2.2.2.2.2.1 + zP0.2.2.2.2.2.2 + nI (zqC S.2.1) = nI (zqC S.2.1) from by show (0 : Int32) + 0 + nI (zqC S.2.1) = _; rw [Int32.add_zero, Int32.zero_add]] at this
    exact this
  · have := congrArg List.length hkd.1
    rw [List.length_map, List.length_map] at this
    exact this
  · have := hsg.1
    rw [Nat.zero_add] at this
    exact this
  · have := hsg.2
    rw [if_pos rfl, Nat.zero_add] at this
    exact this
  · intro p hp
    have := zsgs_in S.2.1 0 0 p hp
    rw [Nat.zero_add] at this
    exact this
/-- how the counts lie -/
theorem zqP_le : ∀ l : List Int32, (∀ c ∈ l, zcd c) → zqP l + zqW l + zqC l ≤ l.length
  | [], _ => Nat.le_refl _
  | c :: cs, hl => by
    have ih := zqP_le cs (fun x hx => hl x (List.mem_cons_of_mem _ hx))
    have hc := hl c List.mem_cons_self
    unfold zqP zqW zqC
    rw [List.length_cons]
    by_cases hg : zsg c = true
    · rw [if_pos hg, if_neg (zq_sg hc hg).1, if_neg (zq_sg hc hg).2]; omega
    · rw [if_neg hg]
      by_cases h1 : c = 27 ∨ c = 28
      · rw [if_pos h1, if_neg (fun h => by rw [h] at h1; exact absurd h1 (by decide))]; omega
      · rw [if_neg h1]
        split <;> omega
theorem zqS_le : ∀ (l : List Int32) (b : Bool), zqS b l ≤ zqP l
  | [], _ => Nat.le_refl _
  | c :: cs, b => by
    have ih := zqS_le cs (zsg c)
    unfold zqS zqP
    by_cases hg : zsg c = true
    · rw [if_pos hg]
      split <;> omega
    · rw [if_neg hg, if_neg (fun h => hg h.1)]
      omega
end ZQF
