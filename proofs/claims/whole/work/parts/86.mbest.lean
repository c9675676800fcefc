/-! ===== the pure part: the model's best repair ===== -/
section ZMBE
theorem zhalf : ∀ k : Nat, k < 404 → nI k / 2 = nI (k / 2) ∧ (30 : Int32) + (nI k - nI k / 2 * 2) = nI (30 + k % 2) := by decide +kernel
/-- the count of the model, the change of the class -/
def zYg (D Y : Nat) (g : Int32) : Prop := Y ≤ D ∧ nI Y = nI D + g
theorem zYg_le {D Y V : Nat} {g c : Int32} (h : zYg D Y g) (hD : D ≤ 300) (hV : V ≤ 300) (hc : nI V = nI D + c) : g ≤ c ↔ Y ≤ V := by
  obtain ⟨h1, h2⟩ := h
  have t1 := nI_toInt (n := D) (by omega)
  have t2 := nI_toInt (n := Y) (by omega)
  have t3 := nI_toInt (n := V) (by omega)
  have hg : g = nI Y - nI D := by rw [h2, Int32.add_comm, Int32.add_sub_cancel]
  have hc : c = nI V - nI D := by rw [hc, Int32.add_comm, Int32.add_sub_cancel]
  rw [hg, hc, Int32.le_iff_toInt_le, Int32.toInt_sub, Int32.toInt_sub, t1, t2, t3, Int.bmod_eq_of_le (by omega) (by omega), Int.bmod_eq_of_le (by omega) (by omega)]
  omega
theorem zm_rpb {v0 : zModel} (rec11 : Int32 → Int32 → Int32 → (Nat → Int32) → (Nat → Int32) → Int32 → (Nat → Int32) → Int32 → Int32 → (Nat → Int32) → Int32 → (Nat → Int32) → (Nat → Int32) → (Nat → Int32) → Int32 → Int32 → Int32 → Int32 → (Nat → Int32) → Int32 → Option (Int32 × zModel)) {Y V : Nat} (hY : Y ≤ 300) (hV : V ≤ 300) (y2 y3 : Int32) (m : zModel) : zf_X8_repair_b48 10000 v0 rec11 (nI Y) y2 y3 (nI V) m.1 m.2.1 m.2.2.1 m.2.2.2.1 m.2.2.2.2.1 m.2.2.2.2.2.1 m.2.2.2.2.2.2.1 m.2.2.2.2.2.2.2.1 m.2.2.2.2.2.2.2.2.1 m.2.2.2.2.2.2.2.2.2.1 m.2.2.2.2.2.2.2.2.2.2.1 m.2.2.2.2.2.2.2.2.2.2.2.1 m.2.2.2.2.2.2.2.2.2.2.2.2.1 m.2.2.2.2.2.2.2.2.2.2.2.2.2.1 m.2.2.2.2.2.2.2.2.2.2.2.2.2.2.1 m.2.2.2.2.2.2.2.2.2.2.2.2.2.2.2.1 m.2.2.2.2.2.2.2.2.2.2.2.2.2.2.2.2 = rec11 (nI (min Y V)) (if Y ≤ V then y2 else y3) (y3 + 1) m.1 m.2.1 m.2.2.1 m.2.2.2.1 m.2.2.2.2.1 m.2.2.2.2.2.1 m.2.2.2.2.2.2.1 m.2.2.2.2.2.2.2.1 m.2.2.2.2.2.2.2.2.1 m.2.2.2.2.2.2.2.2.2.1 m.2.2.2.2.2.2.2.2.2.2.1 m.2.2.2.2.2.2.2.2.2.2.2.1 m.2.2.2.2.2.2.2.2.2.2.2.2.1 m.2.2.2.2.2.2.2.2.2.2.2.2.2.1 m.2.2.2.2.2.2.2.2.2.2.2.2.2.2.1 m.2.2.2.2.2.2.2.2.2.2.2.2.2.2.2.1 m.2.2.2.2.2.2.2.2.2.2.2.2.2.2.2.2 := by
  unfold zf_X8_repair_b48 zf_X8_repair_b61 zf_X8_repair_b74
  by_cases h : Y ≤ V
  · rw [if_pos (nI_le h (by omega)), if_pos (nI_le h (by omega)), zlet_eq, if_pos h, Nat.min_eq_left h]
  · rw [if_neg (nI_ge (by omega) (by omega)), if_neg (nI_ge (by omega) (by omega)), zlet_eq, if_neg h, Nat.min_eq_right (by omega)]
theorem zm_rp1 {v0 m : zModel} {A : zAb} (h : zmR m A) (hk : zok A) {i b : Nat} (hi : i ≤ A.2.1.2.1.length) (hb : b < 2) {Y : Nat} (hY : Y ≤ 300) (y2 : Int32) (n : Nat) : ∃ m', zf_X8_repair_L11 10000 v0 (n + 1) (nI Y) y2 (nI (2 * i + b)) m.1 m.2.1 m.2.2.1 m.2.2.2.1 m.2.2.2.2.1 m.2.2.2.2.2.1 m.2.2.2.2.2.2.1 m.2.2.2.2.2.2.2.1 m.2.2.2.2.2.2.2.2.1 m.2.2.2.2.2.2.2.2.2.1 m.2.2.2.2.2.2.2.2.2.2.1 m.2.2.2.2.2.2.2.2.2.2.2.1 m.2.2.2.2.2.2.2.2.2.2.2.2.1 m.2.2.2.2.2.2.2.2.2.2.2.2.2.1 m.2.2.2.2.2.2.2.2.2.2.2.2.2.2.1 m.2.2.2.2.2.2.2.2.2.2.2.2.2.2.2.1 m.2.2.2.2.2.2.2.2.2.2.2.2.2.2.2.2 = zf_X8_repair_L11 10000 v0 n (nI (min Y (zdw A.2.1 i))) (if Y ≤ zdw A.2.1 i then y2 else nI (2 * i + b)) (nI (2 * i + b + 1)) m'.1 m'.2.1 m'.2.2.1 m'.2.2.2.1 m'.2.2.2.2.1 m'.2.2.2.2.2.1 m'.2.2.2.2.2.2.1 m'.2.2.2.2.2.2.2.1 m'.2.2.2.2.2.2.2.2.1 m'.2.2.2.2.2.2.2.2.2.1 m'.2.2.2.2.2.2.2.2.2.2.1 m'.2.2.2.2.2.2.2.2.2.2.2.1 m'.2.2.2.2.2.2.2.2.2.2.2.2.1 m'.2.2.2.2.2.2.2.2.2.2.2.2.2.1 m'.2.2.2.2.2.2.2.2.2.2.2.2.2.2.1 m'.2.2.2.2.2.2.2.2.2.2.2.2.2.2.2.1 m'.2.2.2.2.2.2.2.2.2.2.2.2.2.2.2.2 ∧ zmfr m m' := by
  have o3 := hk.2.2.1
  have h200 : A.2.1.2.1.length ≤ 200 := Nat.le_trans o3.2.1 o3.1
  have hV := zdw_le A.2.1 hi
  have he : (2 : Int32) * nI A.2.1.2.1.length + 2 = nI (2 * A.2.1.2.1.length + 2) := by
    rw [show (2 : Int32) = nI 2 from by decide, nI_mul, nI_add]
  rw [zf_X8_repair_L11, zlet_eq, h.1.2.1.1, he, if_neg (nI_ge (by omega) (by omega))]
  by_cases h0 : Y = 0
  · subst h0
    rw [if_pos (show nI 0 = 0 from nI_0), show (0 : Int32) = nI 0 from nI_0.symm, zm_rpb _ hY (V := 0) (by omega), nI_1, Nat.min_self, if_pos (Nat.le_refl 0), Nat.min_eq_left (Nat.zero_le _), if_pos (Nat.zero_le _)]
    exact ⟨m, rfl, zmfr.rf m⟩
  · obtain ⟨q1, q2⟩ := zhalf (2 * i + b) (by omega)
    have hbb : 30 + (2 * i + b) % 2 = 30 ∨ 30 + (2 * i + b) % 2 = 31 := by omega
    rw [if_neg (nI_ne0 (by omega) (by omega)), q2, q1, show (2 * i + b) / 2 = i by omega]
    obtain ⟨m', g1, g2⟩ := zm_dw h hk hi (c := nI (30 + (2 * i + b) % 2)) (by
      rcases hbb with e | e
      · rw [e]; exact Or.inl (by decide)
      · rw [e]; exact Or.inr (by decide))
    rw [show zf_X8_doubtsWith 10000 (m.1, m.2.1, m.2.2.1, m.2.2.2.1, m.2.2.2.2.1, m.2.2.2.2.2.1, m.2.2.2.2.2.2.1, m.2.2.2.2.2.2.2.1, m.2.2.2.2.2.2.2.2.1, m.2.2.2.2.2.2.2.2.2.1, m.2.2.2.2.2.2.2.2.2.2.1, m.2.2.2.2.2.2.2.2.2.2.2.1, m.2.2.2.2.2.2.2.2.2.2.2.2.1, m.2.2.2.2.2.2.2.2.2.2.2.2.2.1, m.2.2.2.2.2.2.2.2.2.2.2.2.2.2.1, m.2.2.2.2.2.2.2.2.2.2.2.2.2.2.2.1, m.2.2.2.2.2.2.2.2.2.2.2.2.2.2.2.2) (nI i) (nI (30 + (2 * i + b) % 2)) = some (nI (zdw A.2.1 i), m') from g1, Option.bind_some]
    refine ⟨m', ?_, g2⟩
    rw [← nI_1]
    exact zm_rpb _ hY (by omega) y2 _ m'
theorem zm_rpL {v0 : zModel} {A : zAb} (hk : zok A) : ∀ (d i n : Nat) (m : zModel) (Y : Nat) (y2 g : Int32), i + d = A.2.1.2.1.length + 1 → 2 * d < n → zmR m A → zYg (zdbs A.2.1) Y g →
    ∃ m', zf_X8_repair_L11 10000 v0 n (nI Y) y2 (nI (2 * i)) m.1 m.2.1 m.2.2.1 m.2.2.2.1 m.2.2.2.2.1 m.2.2.2.2.2.1 m.2.2.2.2.2.2.1 m.2.2.2.2.2.2.2.1 m.2.2.2.2.2.2.2.2.1 m.2.2.2.2.2.2.2.2.2.1 m.2.2.2.2.2.2.2.2.2.2.1 m.2.2.2.2.2.2.2.2.2.2.2.1 m.2.2.2.2.2.2.2.2.2.2.2.2.1 m.2.2.2.2.2.2.2.2.2.2.2.2.2.1 m.2.2.2.2.2.2.2.2.2.2.2.2.2.2.1 m.2.2.2.2.2.2.2.2.2.2.2.2.2.2.2.1 m.2.2.2.2.2.2.2.2.2.2.2.2.2.2.2.2 = some (zbr (zcut (A.2.1.2.2.2.2.1.map zpk) A.2.1.2.1) d i y2 g, m') ∧ zmfr m m'
  | d, i, 0, m, Y, y2, g, hd, hn, h, hY => absurd hn (Nat.not_lt_zero _)
  | 0, i, n + 1, m, Y, y2, g, hd, hn, h, hY => by
    have o3 := hk.2.2.1
    have h200 : A.2.1.2.1.length ≤ 200 := Nat.le_trans o3.2.1 o3.1
    have he : (2 : Int32) * nI A.2.1.2.1.length + 2 = nI (2 * A.2.1.2.1.length + 2) := by
      rw [show (2 : Int32) = nI 2 from by decide, nI_mul, nI_add]
    unfold zf_X8_repair_L11
    rw [zlet_eq, h.1.2.1.1, he, if_pos (nI_le (by omega) (by omega))]
    exact ⟨m, rfl, zmfr.rf m⟩
  | d + 1, i, 1, m, Y, y2, g, hd, hn, h, hY => absurd hn (by omega)
  | d + 1, i, n + 2, m, Y, y2, g, hd, hn, h, hY => by
    have o3 := hk.2.2.1
    have h200 : A.2.1.2.1.length ≤ 200 := Nat.le_trans o3.2.1 o3.1
    have hi : i ≤ A.2.1.2.1.length := by omega
    have hV := zdw_le A.2.1 hi
    have hD : zdbs A.2.1 ≤ 300 := by
      have h1 := (zPn_le hk).2.2.1
      have : zdbs A.2.1 ≤ (zPn A.2.1).2.2.1.length := zcount2 _ (by decide)
      omega
    have hcut := zdw_cut A.2.1 hi
    have hY1 := hY.1
    have hle := zYg_le hY hD (V := zdw A.2.1 i) (by omega) hcut
    obtain ⟨m1, g1, f1⟩ := zm_rp1 (v0 := v0) h hk hi (b := 0) (by omega) (Y := Y) (by omega) y2 (n + 1)
    have h1 := zmR_fr h f1
    obtain ⟨m2, g2, f2⟩ := zm_rp1 (v0 := v0) h1 hk hi (b := 1) (by omega) (Y := min Y (zdw A.2.1 i)) (by omega) (if Y ≤ zdw A.2.1 i then y2 else nI (2 * i + 0)) n
    have h2 := zmR_fr h1 f2
    rw [show 2 * i + 0 + 1 = 2 * i + 1 by omega, g2, Nat.add_zero, show 2 * i + 1 + 1 = 2 * (i + 1) by omega, if_pos (Nat.min_le_right _ _), Nat.min_assoc, Nat.min_self] at g1
    have hY2 : zYg (zdbs A.2.1) (min Y (zdw A.2.1 i)) (if g ≤ zcut (A.2.1.2.2.2.2.1.map zpk) A.2.1.2.1 i then g else zcut (A.2.1.2.2.2.2.1.map zpk) A.2.1.2.1 i) := by
      refine ⟨by omega, ?_⟩
      by_cases e : Y ≤ zdw A.2.1 i
      · rw [if_pos (hle.mpr e), Nat.min_eq_left e]
        exact hY.2
      · rw [if_neg (fun h => e (hle.mp h)), Nat.min_eq_right (by omega)]
        exact hcut
    obtain ⟨m', k1, k2⟩ := zm_rpL (v0 := v0) hk d (i + 1) n m2 (min Y (zdw A.2.1 i)) (if Y ≤ zdw A.2.1 i then y2 else nI (2 * i)) _ (by omega) (by omega) h2 hY2
    refine ⟨m', g1.trans (k1.trans ?_), (f1.tr f2).tr k2⟩
    rw [zbr]
    by_cases e : Y ≤ zdw A.2.1 i
    · rw [if_pos e, if_pos (hle.mpr e), if_pos (hle.mpr e)]
    · rw [if_neg e, if_neg (fun h => e (hle.mp h)), if_neg (fun h => e (hle.mp h)), show (2 : Int32) * nI i = nI (2 * i) from by rw [show (2 : Int32) = nI 2 from by decide, nI_mul]]
theorem zm_rep {m : zModel} {A : zAb} (h : zmR m A) (hk : zok A) : ∃ m', zf_X8_repair 10000 m = some (aBest A, m') ∧ zmfr m m' := by
  have o3 := hk.2.2.1
  have h200 : A.2.1.2.1.length ≤ 200 := Nat.le_trans o3.2.1 o3.1
  obtain ⟨m1, g1, f1⟩ := zm_d0 h hk
  obtain ⟨m', k1, k2⟩ := zm_rpL (v0 := m) hk (A.2.1.2.1.length + 1) 0 10000 m1 (zdbs A.2.1) (-1) 0 (by omega) (by omega) (zmR_fr h f1) ⟨Nat.le_refl _, (Int32.add_zero _).symm⟩
  rw [Nat.mul_zero, nI_0] at k1
  unfold zf_X8_repair
  rw [g1, Option.bind_some]
  exact ⟨m', k1, f1.tr k2⟩
theorem mq_best {m : zModel} {A : zAb} (h : zmR m A) (hk : zok A) : ∃ m', zf_X8_bestRepair 10000 m = some (aBest A, m') ∧ zmR m' A := by
  obtain ⟨m', e, f⟩ := zm_rep (m := zthr m 0) h hk
  unfold zf_X8_bestRepair
  rw [show zf_X8_repair 10000 (m.1, m.2.1, m.2.2.1, m.2.2.2.1, m.2.2.2.2.1, 0, m.2.2.2.2.2.2) = some (aBest A, m') from e, Option.bind_some]
  exact ⟨m', rfl, zmR_fr (m := zthr m 0) h f⟩
end ZMBE
