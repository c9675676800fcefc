/-! ===== the pure part: the model's forecasts ===== -/
section ZMCU
/-- runs in doubt with a code put in at i -/
def zdw (S : zNow) (i : Nat) : Nat := zdc (S.2.2.2.2.1.map zpk) [] (S.2.1.take i) + zdc (S.2.2.2.2.1.map zpk) [] (S.2.1.drop i)
theorem zcut_abs {ws X0 T1 T2 Y0 : List Int32} {A B : Nat} (hA : ∀ t : List Int32, zdc ws [] (X0 ++ t) = A + zdc ws [] t) (hB : ∀ run : List Int32, zdc ws run Y0 = zdE ws run + B) (s1 : ∀ c ∈ T1, zsg c = true) (s2 : ∀ c ∈ T2, zsg c = true) :
    zdc ws [] (X0 ++ T1) = A + zdE ws T1 ∧ zdc ws [] (T2 ++ Y0) = zdE ws T2 + B ∧ zdc ws [] (X0 ++ (T1 ++ (T2 ++ Y0))) = A + (zdE ws (T1 ++ T2) + B) := by
  refine ⟨?_, ?_, ?_⟩
  · have := zdc_sgs ws [] T1 [] s1
    rw [List.append_nil, List.nil_append] at this
    rw [hA, this]
    rfl
  · rw [zdc_sgs ws Y0 T2 [] s2, List.nil_append, hB]
  · rw [hA, zdc_sgs ws (T2 ++ Y0) T1 [] s1, List.nil_append, zdc_sgs ws Y0 T2 T1 s2, hB]
theorem zI_alg (p q z : Int32) : p + z + (q - z) = p + q := by rw [Int32.add_assoc p z, Int32.add_comm z, Int32.sub_add_cancel]
theorem zcut_eq (ws l : List Int32) {i : Nat} (hi : i ≤ l.length) : nI (zdc ws [] (l.take i) + zdc ws [] (l.drop i)) = nI (zdc ws [] l) + zcut ws l i := by
  have h1 := zst_le l i
  have h2 := zen_ge l i
  have h4 := zen_le l hi
  obtain ⟨A, hA⟩ := zdc_bef ws l i hi
  obtain ⟨B, hB⟩ := zdc_aft ws (y := (l.drop i).dropWhile zsg) (zdropw _)
  have hen : ((l.drop i).takeWhile zsg).length = zen l i - i := by unfold zen; omega
  have p1 : l.take (zst l i) ++ (l.drop (zst l i)).take (i - zst l i) = l.take i := by
    have := List.take_append_drop (zst l i) (l.take i)
    rw [List.take_take, Nat.min_eq_left h1, List.drop_take] at this
    exact this
  have htw : (l.drop i).take (zen l i - i) = (l.drop i).takeWhile zsg := by rw [← hen]; exact (ztakew_eq _).symm
  have p2 : (l.drop i).take (zen l i - i) ++ (l.drop i).dropWhile zsg = l.drop i := by
    rw [htw, List.takeWhile_append_dropWhile]
  have p3 : (l.drop (zst l i)).take (i - zst l i) ++ (l.drop i).take (zen l i - i) = (l.drop (zst l i)).take (zen l i - zst l i) := by
    have := List.take_append_drop (i - zst l i) ((l.drop (zst l i)).take (zen l i - zst l i))
    rw [List.take_take, Nat.min_eq_left (by omega), List.drop_take, List.drop_drop, show zst l i + (i - zst l i) = i by omega, show zen l i - zst l i - (i - zst l i) = zen l i - i by omega] at this
    exact this
  have s1 : ∀ c ∈ (l.drop (zst l i)).take (i - zst l i), zsg c = true := by
    intro c hc
    obtain ⟨j, hj, rfl⟩ := List.getElem_of_mem hc
    rw [List.length_take, List.length_drop] at hj
    rw [List.getElem_take, List.getElem_drop]
    have := zst_all l i (zst l i + j) (by omega) (by omega)
    rw [List.getD_eq_getElem?_getD, List.getElem?_eq_getElem (by omega)] at this
    exact this
  have s2 : ∀ c ∈ (l.drop i).take (zen l i - i), zsg c = true := by
    intro c hc
    rw [htw] at hc
    exact (List.all_eq_true.mp List.all_takeWhile) c hc
  obtain ⟨e1, e2, e3⟩ := zcut_abs hA hB s1 s2
  rw [p1] at e1
  rw [p3, p2, ← List.append_assoc, p1, List.take_append_drop] at e3
  rw [p2] at e2
  rw [e1, e2, e3]
  have L1 : ((l.drop (zst l i)).take (i - zst l i)).length = i - zst l i := by rw [List.length_take, List.length_drop]; omega
  have L2 : ((l.drop i).take (zen l i - i)).length = zen l i - i := by rw [List.length_take, List.length_drop]; omega
  have L3 : ((l.drop (zst l i)).take (zen l i - zst l i)).length = zen l i - zst l i := by rw [List.length_take, List.length_drop]; omega
  unfold zcut
  by_cases c1 : zst l i = i
  · rw [if_pos c1, Int32.add_zero]
    have t1 : (l.drop (zst l i)).take (i - zst l i) = [] := List.eq_nil_of_length_eq_zero (by omega)
    rw [← p3, t1, List.nil_append, show zdE ws [] = 0 from rfl, Nat.add_zero]
  rw [if_neg c1]
  by_cases c2 : zen l i = i
  · rw [if_pos c2, Int32.add_zero]
    have t2 : (l.drop i).take (zen l i - i) = [] := List.eq_nil_of_length_eq_zero (by omega)
    rw [← p3, t2, List.append_nil, show zdE ws [] = 0 from rfl, Nat.zero_add, Nat.add_assoc]
  rw [if_neg c2, zdb_E (by omega), zdb_E (by omega), zdb_E (by omega), nI_add, show A + (zdE ws ((l.drop (zst l i)).take (zen l i - zst l i)) + B) = (A + B) + zdE ws ((l.drop (zst l i)).take (zen l i - zst l i)) by omega, ← nI_add (A + B), zI_alg, nI_add]
  congr 1
  omega
theorem zdw_cut (S : zNow) {i : Nat} (hi : i ≤ S.2.1.length) : nI (zdw S i) = nI (zdbs S) + zcut (S.2.2.2.2.1.map zpk) S.2.1 i := by
  unfold zdw
  rw [zdbs_c]
  exact zcut_eq _ _ hi
theorem zdw_le (S : zNow) {i : Nat} (hi : i ≤ S.2.1.length) : zdw S i ≤ S.2.1.length + 2 := by
  unfold zdw
  have h1 := zdc_len (S.2.2.2.2.1.map zpk) (S.2.1.take i) []
  have h2 := zdc_len (S.2.2.2.2.1.map zpk) (S.2.1.drop i) []
  rw [List.length_take] at h1
  rw [List.length_drop] at h2
  omega
/-- the model's count with a shift put in -/
theorem zm_dw {m : zModel} {A : zAb} (h : zmR m A) (hk : zok A) {i : Nat} (hi : i ≤ A.2.1.2.1.length) {c : Int32} (hc : c = 30 ∨ c = 31) : ∃ m', zf_X8_doubtsWith 10000 m (nI i) c = some (nI (zdw A.2.1 i), m') ∧ zmfr m m' := by
  have o3 := hk.2.2.1
  have h200 : A.2.1.2.1.length ≤ 200 := Nat.le_trans o3.2.1 o3.1
  have hput : zput (nI i) c 0 A.2.1.2.1 = A.2.1.2.1.take i ++ c :: A.2.1.2.1.drop i := by
    have := zput_in c A.2.1.2.1 i 0 hi (by omega)
    rw [Nat.zero_add] at this
    exact this
  have hsg : zsg c = false := by rcases hc with rfl | rfl <;> decide
  have hcd : zcd c := by
    rcases hc with rfl | rfl
    · exact ⟨30, by omega, by decide⟩
    · exact ⟨31, by omega, by decide⟩
  obtain ⟨m', e, q, s, f⟩ := zm_dec h hk (nI i) c hput (by rw [List.length_append, List.length_cons, List.length_take, List.length_drop]; omega) (fun x hx => by
    rcases List.mem_append.mp hx with hx | hx
    · exact o3.2.2.2.1 x (List.mem_of_mem_take hx)
    · rcases List.mem_cons.mp hx with rfl | hx
      · exact hcd
      · exact o3.2.2.2.1 x (List.mem_of_mem_drop hx))
  have hle := (zle_dec (ws := A.2.1.2.2.2.2.1.map zpk) (u := A.2.1.2.2.2.2.2.2) (A.2.1.2.1.take i ++ c :: A.2.1.2.1.drop i) [] zP0 0 ⟨Nat.le_refl _, Nat.le_refl _, Nat.le_refl _, Nat.le_refl _⟩).2.2.1
  rw [List.length_append, List.length_cons, List.length_take, List.length_drop] at hle
  simp only [List.length_nil] at hle
  have h45 := zd45_dec (A.2.1.2.2.2.2.1.map zpk) A.2.1.2.2.2.2.2.2 (A.2.1.2.1.take i ++ c :: A.2.1.2.1.drop i) [] zP0 (Or.inl rfl)
  rw [show zd45 zP0.2.2.1 = 0 from rfl, Nat.zero_add, zdc_mid _ hsg] at h45
  unfold zf_X8_doubtsWith
  rw [e, Option.bind_some, zm_wb4 q (by omega), Option.bind_some]
  exact ⟨m', congrArg (fun x => some (nI x, m')) h45, f⟩
theorem zm_d0 {m : zModel} {A : zAb} (h : zmR m A) (hk : zok A) : ∃ m', zf_X8_doubtsWith 10000 m (-1) 0 = some (nI (zdbs A.2.1), m') ∧ zmfr m m' := by
  obtain ⟨m', e, q, s, f⟩ := zm_dec0 h hk
  have hle := (zPn_le hk).2.2.1
  unfold zf_X8_doubtsWith
  rw [e, Option.bind_some, zm_wb4 q (by omega), Option.bind_some]
  exact ⟨m', rfl, f⟩
theorem zm_dwb {m : zModel} (a c z : Int32) : zf_X8_doubtfulWith_b37 10000 m a c z m.1 m.2.1 m.2.2.1 m.2.2.2.1 m.2.2.2.2.1 m.2.2.2.2.2.1 m.2.2.2.2.2.2.1 m.2.2.2.2.2.2.2.1 m.2.2.2.2.2.2.2.2.1 m.2.2.2.2.2.2.2.2.2.1 m.2.2.2.2.2.2.2.2.2.2.1 m.2.2.2.2.2.2.2.2.2.2.2.1 m.2.2.2.2.2.2.2.2.2.2.2.2.1 m.2.2.2.2.2.2.2.2.2.2.2.2.2.1 m.2.2.2.2.2.2.2.2.2.2.2.2.2.2.1 m.2.2.2.2.2.2.2.2.2.2.2.2.2.2.2.1 m.2.2.2.2.2.2.2.2.2.2.2.2.2.2.2.2 = (zf_X8_refused 10000 m z).bind fun b6 => if b6.1 = 0 then ((zf_X8_doubtsWith 10000 b6.2 a c).bind fun b8 => some (b8.1, b8.2)) else some (0, b6.2) := rfl
theorem zin_3031 (c : Int32) : zf_X8_in 10000 c 30 31 = some (if c = 30 ∨ c = 31 then 1 else 0) := by
  unfold zf_X8_in
  by_cases h1 : c < 30
  · rw [if_pos h1, if_neg (fun h => by rcases h with rfl | rfl <;> exact absurd h1 (by decide))]
  rw [if_neg h1]
  by_cases h2 : 31 < c
  · rw [if_pos h2, if_neg (fun h => by rcases h with rfl | rfl <;> exact absurd h2 (by decide))]
  rw [if_neg h2, if_pos]
  rcases zi_cases c 31 (by omega) with h | h | ⟨k, hk, rfl⟩
  · exact absurd (zlt_trans h (show (0 : Int32) < 30 by decide)) h1
  · exact absurd h h2
  · have a1 : 30 ≤ k := by
      by_cases e : k < 30
      · exact absurd (nI_lt (b := 30) e (by omega)) h1
      · omega
    have a2 : k = 30 ∨ k = 31 := by omega
    rcases a2 with rfl | rfl
    · exact Or.inl (by decide)
    · exact Or.inr (by decide)
theorem mq_dwt {m : zModel} {A : zAb} (h : zmR m A) (hk : zok A) (a c : Int32) : ∃ m', zf_X8_doubtfulWith 10000 m a c = some ((aDwt A a c).2, m') ∧ zf_X8_thrown 10000 m' = some (aDwt A a c).1 ∧ zmR m' A := by
  have o3 := hk.2.2.1
  have h200 : A.2.1.2.1.length ≤ 200 := Nat.le_trans o3.2.1 o3.1
  unfold zf_X8_doubtfulWith aDwt
  rw [zlet_eq, h.1.2.1.1, zm_dwb, zm_dwb, zm_dwb]
  have hin := zm_in a (n := A.2.1.2.1.length + 1) (by omega)
  rw [nI_pred] at hin
  rcases hin with ⟨e, e1⟩ | ⟨i, hi, rfl, e, e1⟩
  · rw [e1, e, Option.bind_some, if_pos rfl, zm_yes (by decide), Option.bind_some, if_neg z10]
    exact ⟨_, rfl, rfl, h⟩
  · rw [e1, e, Option.bind_some, if_neg z10, zin_3031, Option.bind_some]
    by_cases hc : c = 30 ∨ c = 31
    · obtain ⟨m', g1, g2⟩ := zm_dw (m := zthr m 0) h hk (i := i) (by omega) hc
      have hR := zmR_fr (m := zthr m 0) h g2
      rw [if_pos hc, if_neg z10, zm_no, Option.bind_some, if_pos rfl, g1, Option.bind_some]
      simp only [if_pos hc]
      rw [← zdw_cut A.2.1 (i := i) (by omega)]
      exact ⟨m', rfl, by show some m'.2.2.2.2.2.1 = some 0; rw [g2.2.2.2.2.2]; rfl, hR⟩
    · rw [if_neg hc, if_pos rfl, zm_yes (by decide), Option.bind_some, if_neg z10]
      simp only [if_neg hc]
      exact ⟨_, rfl, rfl, h⟩
end ZMCU
