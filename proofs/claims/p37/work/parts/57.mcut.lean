/-! ===== the pure part: a shift put in ===== -/
section ZMC
theorem zdropw (l : List Int32) : ∀ c cs, l.dropWhile zsg = c :: cs → zsg c = false := by
  intro c cs h
  induction l with
  | nil => rw [List.dropWhile_nil] at h; exact absurd h (by simp)
  | cons x l ih =>
    cases hg : zsg x with
    | true => rw [List.dropWhile_cons_of_pos hg] at h; exact ih h
    | false =>
      rw [List.dropWhile_cons_of_neg (by rw [hg]; decide)] at h
      rw [← (List.cons.inj h).1]
      exact hg
theorem zdropw_eq (l : List Int32) : l.dropWhile zsg = l.drop (l.takeWhile zsg).length := by
  induction l with
  | nil => rfl
  | cons x l ih =>
    cases hg : zsg x with
    | true => rw [List.dropWhile_cons_of_pos hg, List.takeWhile_cons_of_pos hg, List.length_cons, List.drop_succ_cons]; exact ih
    | false => rw [List.dropWhile_cons_of_neg (by rw [hg]; decide), List.takeWhile_cons_of_neg (by rw [hg]; decide)]; rfl
theorem ztakew_eq (l : List Int32) : l.takeWhile zsg = l.take (l.takeWhile zsg).length := by
  induction l with
  | nil => rfl
  | cons x l ih =>
    cases hg : zsg x with
    | true => rw [List.takeWhile_cons_of_pos hg, List.length_cons, List.take_succ_cons, ← ih]
    | false => rw [List.takeWhile_cons_of_neg (by rw [hg]; decide)]; rfl
/-- runs in doubt with a code put in at i -/
def zdw (S : zNow) (i : Nat) : Nat := zdc (S.2.2.2.2.1.map zpk) [] (S.2.1.take i) + zdc (S.2.2.2.2.1.map zpk) [] (S.2.1.drop i)
theorem zcut_abs {ws X0 T1 T2 Y0 : List Int32} {A B : Nat} (hA : ∀ t : List Int32, zdc ws [] (X0 ++ t) = A + zdc ws [] t) (hB : ∀ run : List Int32, zdc ws run Y0 = zdE ws run + B) (s1 : ∀ c ∈ T1, zsg c = true) (s2 : ∀ c ∈ T2, zsg c = true) :
    zdc ws [] (X0 ++ T1) = A + zdE ws T1 ∧ zdc ws [] (T2 ++ Y0) = zdE ws T2 + B ∧ zdc ws [] (X0 ++ (T1 ++ (T2 ++ Y0))) = A + (zdE ws (T1 ++ T2) + B) := by
  refine ⟨?_, ?_, ?_⟩
  · have := zdc_sgs ws [] T1 [] s1
    rw [List.append_nil, List.nil_append] at this
    rw [hA, this]
    rfl
  · rw [zdc_sgs ws Y0 T2 [] s2, List.nil_append, hB]
  · rw [hA, zdc_sgs ws (T2 ++ Y0) T1 [] s1, List.nil_append, zdc_sgs ws Y0 T2 T1 s2, hB]
theorem zI_alg (p q z : Int32) : p + z + (q - z) = p + q := by rw [Int32.add_assoc p z, Int32.add_comm z, Int32.sub_add_cancel]
theorem zcut_eq (ws l : List Int32) {i : Nat} (hi : i ≤ l.length) : nI (zdc ws [] (l.take i) + zdc ws [] (l.drop i)) = nI (zdc ws [] l) + zcut ws l i := by
  have h1 := zst_le l i
  have h2 := zen_ge l i
  have h4 := zen_le l hi
  obtain ⟨A, hA⟩ := zdc_bef ws l i hi
  obtain ⟨B, hB⟩ := zdc_aft ws (y := (l.drop i).dropWhile zsg) (zdropw _)
  have hen : ((l.drop i).takeWhile zsg).length = zen l i - i := by unfold zen; omega
  have p1 : l.take (zst l i) ++ (l.drop (zst l i)).take (i - zst l i) = l.take i := by
    have := List.take_append_drop (zst l i) (l.take i)
    rw [List.take_take, Nat.min_eq_left h1, List.drop_take] at this
    exact this
  have htw : (l.drop i).take (zen l i - i) = (l.drop i).takeWhile zsg := by rw [← hen]; exact (ztakew_eq _).symm
  have p2 : (l.drop i).take (zen l i - i) ++ (l.drop i).dropWhile zsg = l.drop i := by
    rw [htw, List.takeWhile_append_dropWhile]
  have p3 : (l.drop (zst l i)).take (i - zst l i) ++ (l.drop i).take (zen l i - i) = (l.drop (zst l i)).take (zen l i - zst l i) := by
    have := List.take_append_drop (i - zst l i) ((l.drop (zst l i)).take (zen l i - zst l i))
    rw [List.take_take, Nat.min_eq_left (by omega), List.drop_take, List.drop_drop, show zst l i + (i - zst l i) = i by omega, show zen l i - zst l i - (i - zst l i) = zen l i - i by omega] at this
    exact this
  have s1 : ∀ c ∈ (l.drop (zst l i)).take (i - zst l i), zsg c = true := by
    intro c hc
    obtain ⟨j, hj, rfl⟩ := List.getElem_of_mem hc
    rw [List.length_take, List.length_drop] at hj
    rw [List.getElem_take, List.getElem_drop]
    have := zst_all l i (zst l i + j) (by omega) (by omega)
    rw [List.getD_eq_getElem?_getD, List.getElem?_eq_getElem (by omega)] at this
    exact this
  have s2 : ∀ c ∈ (l.drop i).take (zen l i - i), zsg c = true := by
    intro c hc
    rw [htw] at hc
    exact (List.all_eq_true.mp List.all_takeWhile) c hc
  obtain ⟨e1, e2, e3⟩ := zcut_abs hA hB s1 s2
  rw [p1] at e1
  rw [p3, p2, ← List.append_assoc, p1, List.take_append_drop] at e3
  rw [p2] at e2
  rw [e1, e2, e3]
  have L1 : ((l.drop (zst l i)).take (i - zst l i)).length = i - zst l i := by rw [List.length_take, List.length_drop]; omega
  have L2 : ((l.drop i).take (zen l i - i)).length = zen l i - i := by rw [List.length_take, List.length_drop]; omega
  have L3 : ((l.drop (zst l i)).take (zen l i - zst l i)).length = zen l i - zst l i := by rw [List.length_take, List.length_drop]; omega
  unfold zcut
  by_cases c1 : zst l i = i
  · rw [if_pos c1, Int32.add_zero]
    have t1 : (l.drop (zst l i)).take (i - zst l i) = [] := List.eq_nil_of_length_eq_zero (by omega)
    rw [← p3, t1, List.nil_append, show zdE ws [] = 0 from rfl, Nat.add_zero]
  rw [if_neg c1]
  by_cases c2 : zen l i = i
  · rw [if_pos c2, Int32.add_zero]
    have t2 : (l.drop i).take (zen l i - i) = [] := List.eq_nil_of_length_eq_zero (by omega)
    rw [← p3, t2, List.append_nil, show zdE ws [] = 0 from rfl, Nat.zero_add, Nat.add_assoc]
  rw [if_neg c2, zdb_E (by omega), zdb_E (by omega), zdb_E (by omega), nI_add, show A + (zdE ws ((l.drop (zst l i)).take (zen l i - zst l i)) + B) = (A + B) + zdE ws ((l.drop (zst l i)).take (zen l i - zst l i)) by omega, ← nI_add (A + B), zI_alg, nI_add]
  congr 1
  omega
theorem zdw_cut (S : zNow) {i : Nat} (hi : i ≤ S.2.1.length) : nI (zdw S i) = nI (zdbs S) + zcut (S.2.2.2.2.1.map zpk) S.2.1 i := by
  unfold zdw
  rw [zdbs_c]
  exact zcut_eq _ _ hi
theorem zdw_le (S : zNow) {i : Nat} (hi : i ≤ S.2.1.length) : zdw S i ≤ S.2.1.length + 2 := by
  unfold zdw
  have h1 := zdc_len (S.2.2.2.2.1.map zpk) (S.2.1.take i) []
  have h2 := zdc_len (S.2.2.2.2.1.map zpk) (S.2.1.drop i) []
  rw [List.length_take] at h1
  rw [List.length_drop] at h2
  omega
end ZMC
