/-! ===== the pure part: runs in doubt, counted; a code put in ===== -/
section ZCL
/-- 1 for a run in doubt, of an empty run 0 -/
def zdE (ws : List Int32) : List Int32 → Nat
  | [] => 0
  | c :: cs => if zkd ws (c :: cs) 0 < 4 then 0 else 1
theorem zdE_ne {ws seg : List Int32} (h : 0 < seg.length) : zdE ws seg = if zkd ws seg 0 < 4 then 0 else 1 := by
  cases seg with
  | nil => exact absurd h (Nat.lt_irrefl _)
  | cons c cs => rfl
theorem zdb_E {ws seg : List Int32} (h : 0 < seg.length) : zdb ws seg = nI (zdE ws seg) := by
  unfold zdb
  rw [zdE_ne h]
  split
  · exact nI_0.symm
  · decide
/-- runs in doubt of the codes behind an open run -/
def zdc (ws : List Int32) : List Int32 → List Int32 → Nat
  | run, [] => zdE ws run
  | run, c :: cs => if zsg c = true then zdc ws (run ++ [c]) cs else zdE ws run + zdc ws [] cs
theorem zdc_kd {ws seg : List Int32} {s : Int32} (hs : zbit s) : (if zkd ws seg s = 4 then 1 else 0) + (if zkd ws seg s = 5 then 1 else 0) = if zkd ws seg 0 < 4 then 0 else 1 := by
  have key : ∀ p q : Bool, (if (if p = true then (0 : Int32) else if q = true then 1 + 2 else 0 + 4) = 4 then 1 else 0) + (if (if p = true then (0 : Int32) else if q = true then 1 + 2 else 0 + 4) = 5 then 1 else 0) = (if (if p = true then (0 : Int32) else if q = true then 1 + 2 else 0 + 4) < 4 then 0 else 1) ∧ (if (if q = true then (1 : Int32) else if p = true then 0 + 2 else 1 + 4) = 4 then 1 else 0) + (if (if q = true then (1 : Int32) else if p = true then 0 + 2 else 1 + 4) = 5 then 1 else 0) = (if (if p = true then (0 : Int32) else if q = true then 1 + 2 else 0 + 4) < 4 then 0 else 1) := by decide
  have k0 : zkd ws seg 0 = if zpl ws seg 0 = true then (0 : Int32) else if zpl ws seg 1 = true then 1 + 2 else 0 + 4 := by
    unfold zkd
    simp only [↓reduceIte]
  have k1 : zkd ws seg 1 = if zpl ws seg 1 = true then (1 : Int32) else if zpl ws seg 0 = true then 0 + 2 else 1 + 4 := by
    unfold zkd
    simp only [if_neg z10]
  rcases hs with rfl | rfl
  · rw [k0]
    exact (key _ _).1
  · rw [k0, k1]
    exact (key _ _).2
def zd45 (l : List Int32) : Nat := l.count 4 + l.count 5
theorem zd45_add (l : List Int32) (x : Int32) : zd45 (l ++ [x]) = zd45 l + ((if x = 4 then 1 else 0) + (if x = 5 then 1 else 0)) := by
  unfold zd45
  rw [List.count_append, List.count_append, List.count_singleton, List.count_singleton]
  simp only [beq_iff_eq]
  exact Nat.add_add_add_comm _ _ _ _
theorem zd45_seg {ws run : List Int32} {P : zPr} (hs : zbit P.2.2.2.2.1) : zd45 (zsegE ws run P).2.2.1 = zd45 P.2.2.1 + zdE ws run ∧ zbit (zsegE ws run P).2.2.2.2.1 := by
  cases run with
  | nil => exact ⟨rfl, hs⟩
  | cons c cs =>
    refine ⟨?_, zkd_bit hs⟩
    show zd45 (P.2.2.1 ++ [zkd ws (c :: cs) P.2.2.2.2.1]) = zd45 P.2.2.1 + zdE ws (c :: cs)
    rw [zd45_add, zdc_kd hs]
    rfl
theorem zd45_dec (ws : List Int32) (u : Int32) : ∀ (l run : List Int32) (P : zPr), zbit P.2.2.2.2.1 → zd45 (zdec ws u run l P).2.2.1 = zd45 P.2.2.1 + zdc ws run l
  | [], run, P, hs => by
    unfold zdec zdc
    exact (zd45_seg hs).1
  | c :: cs, run, P, hs => by
    unfold zdec zdc
    by_cases hg : zsg c = true
    · rw [if_pos hg, if_pos hg]
      exact zd45_dec ws u cs (run ++ [c]) P hs
    · rw [if_neg hg, if_neg hg]
      obtain ⟨h1, h2⟩ := zd45_seg (ws := ws) (run := run) hs
      rw [zd45_dec ws u cs [] (zobey u c (zsegE ws run P)) (zd_beh h2)]
      show zd45 (zsegE ws run P).2.2.1 + _ = _
      rw [h1]
      omega
theorem zdbs_c (S : zNow) : zdbs S = zdc (S.2.2.2.2.1.map zpk) [] S.2.1 := by
  have := zd45_dec (S.2.2.2.2.1.map zpk) S.2.2.2.2.2.2 S.2.1 [] zP0 (Or.inl rfl)
  rw [show zd45 zP0.2.2.1 = 0 from rfl, Nat.zero_add] at this
  exact this
theorem zdE_le (ws : List Int32) : ∀ run : List Int32, zdE ws run ≤ 1
  | [] => Nat.zero_le _
  | c :: cs => by
    show (if zkd ws (c :: cs) 0 < 4 then 0 else 1) ≤ 1
    by_cases h : zkd ws (c :: cs) 0 < 4
    · rw [if_pos h]
      exact Nat.zero_le _
    · rw [if_neg h]
      exact Nat.le_refl _
theorem zdc_len (ws : List Int32) : ∀ (l run : List Int32), zdc ws run l ≤ l.length + 1
  | [], run => by
    unfold zdc
    exact zdE_le ws run
  | c :: cs, run => by
    unfold zdc
    rw [List.length_cons]
    by_cases hg : zsg c = true
    · rw [if_pos hg]
      have := zdc_len ws cs (run ++ [c])
      omega
    · rw [if_neg hg]
      have h1 := zdc_len ws cs []
      have h2 := zdE_le ws run
      omega
/-- a code that is no sign parts the count -/
theorem zdc_mid (ws : List Int32) {c : Int32} (hc : zsg c = false) (y : List Int32) : ∀ (x run : List Int32), zdc ws run (x ++ c :: y) = zdc ws run x + zdc ws [] y
  | [], run => by
    show zdc ws run (c :: y) = zdE ws run + zdc ws [] y
    rw [zdc, if_neg (by rw [hc]; decide)]
  | a :: x, run => by
    show zdc ws run (a :: (x ++ c :: y)) = zdc ws run (a :: x) + zdc ws [] y
    rw [zdc, zdc, zdc_mid ws hc y x, zdc_mid ws hc y x]
    by_cases hg : zsg a = true
    · rw [if_pos hg, if_pos hg]
    · rw [if_neg hg, if_neg hg]
      omega
theorem zdc_sgs (ws y : List Int32) : ∀ (x run : List Int32), (∀ c ∈ x, zsg c = true) → zdc ws run (x ++ y) = zdc ws (run ++ x) y
  | [], run, _ => by rw [List.nil_append, List.append_nil]
  | a :: x, run, h => by
    show zdc ws run (a :: (x ++ y)) = _
    rw [zdc, if_pos (h a List.mem_cons_self), zdc_sgs ws y x (run ++ [a]) (fun c hc => h c (List.mem_cons_of_mem _ hc)), List.append_assoc]
    rfl
/-- what stands before a run -/
theorem zdc_bef (ws l : List Int32) : ∀ i : Nat, i ≤ l.length → ∃ A : Nat, ∀ t : List Int32, zdc ws [] (l.take (zst l i) ++ t) = A + zdc ws [] t
  | 0, _ => ⟨0, fun t => by rw [show zst l 0 = 0 from rfl, List.take_zero, List.nil_append, Nat.zero_add]⟩
  | i + 1, hi => by
    unfold zst
    by_cases hg : zsg (l.getD i 0) = true
    · rw [if_pos hg]
      exact zdc_bef ws l i (by omega)
    · rw [if_neg hg]
      refine ⟨zdc ws [] (l.take i), fun t => ?_⟩
      have hx : l[i]? = some (l.getD i 0) := zgetD (by omega)
      rw [List.take_add_one, hx, List.append_assoc]
      show zdc ws [] (l.take i ++ l.getD i 0 :: t) = _
      exact zdc_mid ws (Bool.eq_false_iff.mpr hg) t _ []
theorem zdc_aft (ws : List Int32) {y : List Int32} (h : ∀ c cs, y = c :: cs → zsg c = false) : ∃ B : Nat, ∀ run : List Int32, zdc ws run y = zdE ws run + B := by
  cases y with
  | nil => exact ⟨0, fun run => rfl⟩
  | cons c cs => exact ⟨zdc ws [] cs, fun run => by rw [zdc, if_neg (by rw [h c cs rfl]; decide)]⟩
theorem zst_all (l : List Int32) : ∀ i : Nat, ∀ j : Nat, zst l i ≤ j → j < i → zsg (l.getD j 0) = true
  | 0, j, _, h => absurd h (Nat.not_lt_zero _)
  | i + 1, j, h1, h2 => by
    unfold zst at h1
    by_cases hg : zsg (l.getD i 0) = true
    · rw [if_pos hg] at h1
      by_cases e : j = i
      · rw [e]; exact hg
      · exact zst_all l i j h1 (by omega)
    · rw [if_neg hg] at h1
      omega
end ZCL
