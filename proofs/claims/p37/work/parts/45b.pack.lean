/-! ===== the pure part: words packed ===== -/
section ZW
theorem nI_bv (n : Nat) : (nI n).toBitVec = BitVec.ofNat 32 n := rfl
theorem zw_or {e m j : Nat} {sh : Int32} (hsh : sh.toBitVec.smod 32 = BitVec.ofNat 32 e) (he : e < 32) (hm : m < 2 ^ e) (hj : m + j * 2 ^ e < 2 ^ 31) : nI m ||| (nI j <<< sh) = nI (m + j * 2 ^ e) := by
  have h0 : j * 2 ^ e < 2 ^ 31 := by omega
  have hj0 : j < 2 ^ 31 := by
    have : j * 1 ≤ j * 2 ^ e := Nat.mul_le_mul_left j (Nat.one_le_two_pow)
    omega
  rw [← Int32.toBitVec_inj, Int32.toBitVec_or, Int32.toBitVec_shiftLeft, hsh, nI_bv, nI_bv, nI_bv]
  apply BitVec.eq_of_toNat_eq
  rw [BitVec.toNat_or, show (BitVec.ofNat 32 j <<< BitVec.ofNat 32 e) = (BitVec.ofNat 32 j <<< (BitVec.ofNat 32 e).toNat) from rfl, BitVec.toNat_shiftLeft, BitVec.toNat_ofNat, BitVec.toNat_ofNat, BitVec.toNat_ofNat, BitVec.toNat_ofNat,
    Nat.mod_eq_of_lt (show m < 2 ^ 32 by omega), Nat.mod_eq_of_lt (show j < 2 ^ 32 by omega), Nat.mod_eq_of_lt (show e < 2 ^ 32 by omega), Nat.mod_eq_of_lt (show m + j * 2 ^ e < 2 ^ 32 by omega)]
  rw [Nat.mod_eq_of_lt (show j <<< e < 2 ^ 32 by rw [Nat.shiftLeft_eq]; omega), Nat.or_comm, ← Nat.shiftLeft_add_eq_or_of_lt hm, Nat.shiftLeft_eq, Nat.add_comm]
theorem zw_sh : ∀ k : Nat, k < 6 → (((5 : Int32) * nI k) &&& 31).toBitVec.smod 32 = BitVec.ofNat 32 (5 * k) := by decide +kernel
/-- the number of a code's list, base 32 -/
def znp : List Int32 → Nat
  | [] => 0
  | c :: cs => c.toNatClampNeg + 32 * znp cs
theorem zcd_nat {c : Int32} (h : zcd c) : c.toNatClampNeg < 32 ∧ c = nI c.toNatClampNeg := by
  obtain ⟨k, hk, rfl⟩ := h
  rw [nI_clamp (by omega)]
  exact ⟨hk, rfl⟩
theorem znp_lt : ∀ l : List Int32, (∀ c ∈ l, zcd c) → znp l < 2 ^ (5 * l.length)
  | [], _ => by decide
  | c :: cs, h => by
    have h1 := (zcd_nat (h c List.mem_cons_self)).1
    have h2 := znp_lt cs (fun x hx => h x (List.mem_cons_of_mem _ hx))
    show c.toNatClampNeg + 32 * znp cs < 2 ^ (5 * (cs.length + 1))
    rw [show 5 * (cs.length + 1) = 5 * cs.length + 5 by omega, Nat.pow_add]
    omega
theorem zpks_np : ∀ (l : List Int32) (k m : Nat), (∀ c ∈ l, zcd c) → k + l.length ≤ 6 → m < 2 ^ (5 * k) → zpks k (nI m) l = nI (m + 2 ^ (5 * k) * znp l)
  | [], k, m, _, _, _ => by show nI m = nI (m + 2 ^ (5 * k) * 0); rw [Nat.mul_zero, Nat.add_zero]
  | c :: cs, k, m, h, hk, hm => by
    have hk : k + (cs.length + 1) ≤ 6 := hk
    obtain ⟨h1, h2⟩ := zcd_nat (h c List.mem_cons_self)
    have hp : 2 ^ (5 * (k + 1)) = 2 ^ (5 * k) * 32 := by rw [show 5 * (k + 1) = 5 * k + 5 by omega, Nat.pow_add]
    have hle : 2 ^ (5 * (k + 1)) ≤ 2 ^ 30 := Nat.pow_le_pow_right (by omega) (by omega)
    have hcm : m + c.toNatClampNeg * 2 ^ (5 * k) < 2 ^ (5 * (k + 1)) := by
      have : c.toNatClampNeg * 2 ^ (5 * k) ≤ 31 * 2 ^ (5 * k) := Nat.mul_le_mul_right _ (by omega)
      omega
    show zpks (k + 1) (nI m ||| (c <<< (((5 : Int32) * nI k) &&& 31))) cs = nI (m + 2 ^ (5 * k) * (c.toNatClampNeg + 32 * znp cs))
    rw [h2, nI_clamp (by omega), zw_or (zw_sh k (by omega)) (by omega) hm (by omega), zpks_np cs (k + 1) _ (fun x hx => h x (List.mem_cons_of_mem _ hx)) (by omega) hcm, hp]
    congr 1
    rw [Nat.mul_add, Nat.mul_comm (2 ^ (5 * k)) c.toNatClampNeg, Nat.mul_assoc, Nat.add_assoc]
theorem zpk_np {l : List Int32} (h : ∀ c ∈ l, zcd c) (hl : l.length ≤ 6) : zpk l = nI (znp l) := by
  unfold zpk
  rw [if_pos hl]
  have := zpks_np l 0 0 h (by omega) (by omega)
  rw [nI_0, Nat.mul_zero, Nat.pow_zero, Nat.zero_add, Nat.one_mul] at this
  exact this
theorem znp_30 {l : List Int32} (h : ∀ c ∈ l, zcd c) (hl : l.length ≤ 6) : znp l < 2 ^ 30 := Nat.lt_of_lt_of_le (znp_lt l h) (Nat.pow_le_pow_right (by omega) (by omega))
theorem zsg_pos {c : Int32} (h : zsg c = true) (hc : zcd c) : 0 < c.toNatClampNeg := by
  obtain ⟨k, hk, rfl⟩ := hc
  rw [nI_clamp (by omega)]
  rcases Nat.eq_zero_or_pos k with rfl | h0
  · exact absurd h (by decide)
  · exact h0
theorem zpk_ne0 {l : List Int32} (h : ∀ c ∈ l, zsg c = true ∧ zcd c) (h0 : 0 < l.length) (h6 : l.length ≤ 6) : ¬ zpk l = 0 := by
  rw [zpk_np (fun c hc => (h c hc).2) h6]
  refine nI_ne0 ?_ (by have := znp_30 (fun c hc => (h c hc).2) h6; omega)
  cases l with
  | nil => exact absurd h0 (Nat.lt_irrefl _)
  | cons c cs =>
    have := zsg_pos (h c List.mem_cons_self).1 (h c List.mem_cons_self).2
    show 0 < c.toNatClampNeg + 32 * znp cs
    omega
end ZW
