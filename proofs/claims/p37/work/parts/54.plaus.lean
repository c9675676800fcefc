/-! ===== the pure part: plausibility ===== -/
section ZPL
/-- c of a, as the machine divides -/
def zpq (a c : Nat) : UInt64 := FP.ddiv (FP.i2d (nI c)) (FP.i2d (nI a))
theorem zpq_1 : ∀ a : Nat, a < 101 → 0 < a → ∀ c : Nat, c < a + 1 → (zpq a c &&& 0x7fffffffffffffff ≤ 0x7ff0000000000000) ∧ Op.cmpValue (FP.dcmp (zpq a c) (zpq a c)) .l = 0 := by decide +kernel
theorem zpq_2 : ∀ a : Nat, a < 150 → 100 < a → ∀ c : Nat, c < a + 1 → (zpq a c &&& 0x7fffffffffffffff ≤ 0x7ff0000000000000) ∧ Op.cmpValue (FP.dcmp (zpq a c) (zpq a c)) .l = 0 := by decide +kernel
theorem zpq_3 : ∀ a : Nat, a < 201 → 149 < a → ∀ c : Nat, c < a + 1 → (zpq a c &&& 0x7fffffffffffffff ≤ 0x7ff0000000000000) ∧ Op.cmpValue (FP.dcmp (zpq a c) (zpq a c)) .l = 0 := by decide +kernel
theorem zpq_ok {a c : Nat} (h0 : 0 < a) (ha : a ≤ 200) (hc : c ≤ a) : (zpq a c &&& 0x7fffffffffffffff ≤ 0x7ff0000000000000) ∧ Op.cmpValue (FP.dcmp (zpq a c) (zpq a c)) .l = 0 := by
  by_cases h1 : a < 101
  · exact zpq_1 a h1 h0 c (by omega)
  by_cases h2 : a < 150
  · exact zpq_2 a h2 (by omega) c (by omega)
  · exact zpq_3 a (by omega) (by omega) c (by omega)
/-- the part of the runs that are not in doubt -/
def zpla (S : zNow) : UInt64 := if (zPn S).2.2.1.length = 0 then FP.dconst1 else zpq (zPn S).2.2.1.length ((zPn S).2.2.1.length - zdbs S)
theorem zcount2 (l : List Int32) {a b : Int32} (h : ¬ a = b) : l.count a + l.count b ≤ l.length := by
  induction l with
  | nil => exact Nat.le_refl _
  | cons x l ih =>
    rw [List.count_cons, List.count_cons, List.length_cons]
    by_cases e : x = a
    · have e2 : ¬ x = b := fun e2 => h (e.symm.trans e2)
      simp only [beq_iff_eq, if_pos e, if_neg e2]
      omega
    · simp only [beq_iff_eq, if_neg e]
      split <;> omega
theorem cq_plaus {v : zTR} {A : zAb} (h : zcR v A) : zf_X7_plausibility 10000 v = some (zpla A.2.1) := by
  have hl := h.2.2.1.2.2.1.2.1
  have hd : zdbs A.2.1 ≤ (zPn A.2.1).2.2.1.length := zcount2 _ (by decide)
  unfold zf_X7_plausibility zpla
  rw [cq_segs h, Option.bind_some]
  by_cases h0 : (zPn A.2.1).2.2.1.length = 0
  · rw [if_pos (by rw [h0]; exact nI_0), if_pos h0]
  · have hsub : nI (zPn A.2.1).2.2.1.length - nI (zdbs A.2.1) = nI ((zPn A.2.1).2.2.1.length - zdbs A.2.1) := by
      have := nI_subL (zdbs A.2.1) ((zPn A.2.1).2.2.1.length - zdbs A.2.1)
      rw [Nat.add_sub_cancel' hd] at this
      exact this
    rw [if_neg (nI_ne0 (by omega) (by omega)), if_neg h0, cq_doubt h, Option.bind_some, zlet_eq, show (zPn A.2.1).2.2.1.count 4 + (zPn A.2.1).2.2.1.count 5 = zdbs A.2.1 from rfl, hsub]
    exact if_pos (zpq_ok (by omega) (by omega) (by omega)).1
end ZPL
