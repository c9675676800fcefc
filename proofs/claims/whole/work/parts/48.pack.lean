/-! ===== the pure part: words packed ===== -/
section ZW
theorem nI_bv (n : Nat) : (nI n).toBitVec = BitVec.ofNat 32 n := rfl
theorem zw_or {e m j : Nat} {sh : Int32} (hsh : sh.toBitVec.smod 32 = BitVec.ofNat 32 e) (he : e < 32) (hm : m < 2 ^ e) (hj : m + j * 2 ^ e < 2 ^ 31) : nI m ||| (nI j <<< sh) = nI (m + j * 2 ^ e) := by
  have h0 : j * 2 ^ e < 2 ^ 31 := by omega
  have hj0 : j < 2 ^ 31 := by
    have : j * 1 ≤ j * 2 ^ e := Nat.mul_le_mul_left j (Nat.one_le_two_pow)
    omega
  rw [← Int32.toBitVec_inj, Int32.toBitVec_or, Int32.toBitVec_shiftLeft, hsh, nI_bv, nI_bv, nI_bv]
  apply BitVec.eq_of_toNat_eq
  rw [BitVec.toNat_or, show (BitVec.ofNat 32 j <<< BitVec.ofNat 32 e) = (BitVec.ofNat 32 j <<< (BitVec.ofNat 32 e).toNat) from rfl, BitVec.toNat_shiftLeft, BitVec.toNat_ofNat, BitVec.toNat_ofNat, BitVec.toNat_ofNat, BitVec.toNat_ofNat,
    Nat.mod_eq_of_lt (show m < 2 ^ 32 by omega), Nat.mod_eq_of_lt (show j < 2 ^ 32 by omega), Nat.mod_eq_of_lt (show e < 2 ^ 32 by omega), Nat.mod_eq_of_lt (show m + j * 2 ^ e < 2 ^ 32 by omega)]
  rw [Nat.mod_eq_of_lt (show j <<< e < 2 ^ 32 by rw [Nat.shiftLeft_eq]; omega), Nat.or_comm, ← Nat.shiftLeft_add_eq_or_of_lt hm, Nat.shiftLeft_eq, Nat.add_comm]
theorem zw_sh : ∀ k : Nat, k < 6 → (((5 : Int32) * nI k) &&& 31).toBitVec.smod 32 = BitVec.ofNat 32 (5 * k) := by decide +kernel
/-- the number of a code's list, base 32 -/
def znp : List Int32 → Nat
  | [] => 0
  | c :: cs => c.toNatClampNeg + 32 * znp cs
theorem zcd_nat {c : Int32} (h : zcd c) : c.toNatClampNeg < 32 ∧ c = nI c.toNatClampNeg := by
  obtain ⟨k, hk, rfl⟩ := h
  rw [nI_clamp (by omega)]
  exact ⟨hk, rfl⟩
theorem znp_lt : ∀ l : List Int32, (∀ c ∈ l, zcd c) → znp l < 2 ^ (5 * l.length)
  | [], _ => by decide
  | c :: cs, h => by
    have h1 := (zcd_nat (h c List.mem_cons_self)).1
    have h2 := znp_lt cs (fun x hx => h x (List.mem_cons_of_mem _ hx))
    show c.toNatClampNeg + 32 * znp cs < 2 ^ (5 * (cs.length + 1))
    rw [show 5 * (cs.length + 1) = 5 * cs.length + 5 by omega, Nat.pow_add]
    omega
theorem zpks_np : ∀ (l : List Int32) (k m : Nat), (∀ c ∈ l, zcd c) → k + l.length ≤ 6 → m < 2 ^ (5 * k) → zpks k (nI m) l = nI (m + 2 ^ (5 * k) * znp l)
  | [], k, m, _, _, _ => by show nI m = nI (m + 2 ^ (5 * k) * 0); rw [Nat.mul_zero, Nat.add_zero]
  | c :: cs, k, m, h, hk, hm => by
    have hk : k + (cs.length + 1) ≤ 6 := hk
    obtain ⟨h1, h2⟩ := zcd_nat (h c List.mem_cons_self)
    have hp : 2 ^ (5 * (k + 1)) = 2 ^ (5 * k) * 32 := by rw [show 5 * (k + 1) = 5 * k + 5 by omega, Nat.pow_add]
    have hle : 2 ^ (5 * (k + 1)) ≤ 2 ^ 30 := Nat.pow_le_pow_right (by omega) (by omega)
    have hcm : m + c.toNatClampNeg * 2 ^ (5 * k) < 2 ^ (5 * (k + 1)) := by
      have : c.toNatClampNeg * 2 ^ (5 * k) ≤ 31 * 2 ^ (5 * k) := Nat.mul_le_mul_right _ (by omega)
      omega
    show zpks (k + 1) (nI m ||| (c <<< (((5 : Int32) * nI k) &&& 31))) cs = nI (m + 2 ^ (5 * k) * (c.toNatClampNeg + 32 * znp cs))
    rw [h2, nI_clamp (by omega), zw_or (zw_sh k (by omega)) (by omega) hm (by omega), zpks_np cs (k + 1) _ (fun x hx => h x (List.mem_cons_of_mem _ hx)) (by omega) hcm, hp]
    congr 1
    rw [Nat.mul_add, Nat.mul_comm (2 ^ (5 * k)) c.toNatClampNeg, Nat.mul_assoc, Nat.add_assoc]
theorem zpk_np {l : List Int32} (h : ∀ c ∈ l, zcd c) (hl : l.length ≤ 6) : zpk l = nI (znp l) := by
  unfold zpk
  rw [if_pos hl]
  have := zpks_np l 0 0 h (by omega) (by omega)
  rw [nI_0, Nat.mul_zero, Nat.pow_zero, Nat.zero_add, Nat.one_mul] at this
  exact this
theorem znp_30 {l : List Int32} (h : ∀ c ∈ l, zcd c) (hl : l.length ≤ 6) : znp l < 2 ^ 30 := Nat.lt_of_lt_of_le (znp_lt l h) (Nat.pow_le_pow_right (by omega) (by omega))
theorem zsg_pos {c : Int32} (h : zsg c = true) (hc : zcd c) : 0 < c.toNatClampNeg := by
  obtain ⟨k, hk, rfl⟩ := hc
  rw [nI_clamp (by omega)]
  rcases Nat.eq_zero_or_pos k with rfl | h0
  · exact absurd h (by decide)
  · exact h0
theorem znp_inj : ∀ (l l' : List Int32), (∀ c ∈ l, zsg c = true ∧ zcd c) → (∀ c ∈ l', zsg c = true ∧ zcd c) → znp l = znp l' → l = l'
  | [], [], _, _, _ => rfl
  | [], c :: cs, _, h, e => by
    have := zsg_pos (h c List.mem_cons_self).1 (h c List.mem_cons_self).2
    have e : 0 = c.toNatClampNeg + 32 * znp cs := e
    omega
  | c :: cs, [], h, _, e => by
    have := zsg_pos (h c List.mem_cons_self).1 (h c List.mem_cons_self).2
    have e : c.toNatClampNeg + 32 * znp cs = 0 := e
    omega
  | c :: cs, d :: ds, h, h', e => by
    obtain ⟨h1, h2⟩ := zcd_nat (h c List.mem_cons_self).2
    obtain ⟨h3, h4⟩ := zcd_nat (h' d List.mem_cons_self).2
    have e : c.toNatClampNeg + 32 * znp cs = d.toNatClampNeg + 32 * znp ds := e
    have e1 : c.toNatClampNeg = d.toNatClampNeg := by omega
    have e2 : znp cs = znp ds := by omega
    rw [h2, h4, e1, znp_inj cs ds (fun x hx => h x (List.mem_cons_of_mem _ hx)) (fun x hx => h' x (List.mem_cons_of_mem _ hx)) e2]
/-- a list of signs, packed, is a word packed just when it is the word -/
theorem zpk_inj {l w : List Int32} (h : ∀ c ∈ l, zsg c = true ∧ zcd c) (hl : 0 < l.length) (hw : zwd w) : zpk l = zpk w ↔ l = w := by
  refine ⟨fun e => ?_, fun e => by rw [e]⟩
  have hw0 : 0 < znp w := by
    obtain ⟨h1, h2, h3⟩ := hw
    cases w with
    | nil => exact absurd h1 (Nat.lt_irrefl _)
    | cons c cs =>
      have := zsg_pos (h3 c List.mem_cons_self).1 (h3 c List.mem_cons_self).2
      show 0 < c.toNatClampNeg + 32 * znp cs
      omega
  rw [zpk_np (fun c hc => (hw.2.2 c hc).2) hw.2.1] at e
  by_cases h6 : l.length ≤ 6
  · rw [zpk_np (fun c hc => (h c hc).2) h6] at e
    exact znp_inj l w h hw.2.2 ((nI_eq (by have := znp_30 (fun c hc => (h c hc).2) h6; omega) (by have := znp_30 (fun c hc => (hw.2.2 c hc).2) hw.2.1; omega)).mp e)
  · unfold zpk at e
    rw [if_neg h6, ← nI_0] at e
    have := (nI_eq (by omega) (by have := znp_30 (fun c hc => (hw.2.2 c hc).2) hw.2.1; omega)).mp e
    omega
/-- the place of a list among words -/
def zfw (l : List Int32) : List (List Int32) → Nat → Int32
  | [], _ => -1
  | w :: ws, i => if w = l then nI i else zfw l ws (i + 1)
theorem zfind_w {l : List Int32} (h : ∀ c ∈ l, zsg c = true ∧ zcd c) (hl : 0 < l.length) : ∀ (ws : List (List Int32)) (i : Nat), (∀ w ∈ ws, zwd w) → zfind (zpk l) (ws.map zpk) i = zfw l ws i
  | [], _, _ => rfl
  | w :: ws, i, hw => by
    show (if zpk w = zpk l then nI i else zfind (zpk l) (ws.map zpk) (i + 1)) = (if w = l then nI i else zfw l ws (i + 1))
    rw [zfind_w h hl ws (i + 1) (fun x hx => hw x (List.mem_cons_of_mem _ hx))]
    by_cases e : w = l
    · rw [if_pos e, if_pos (by rw [e])]
    · rw [if_neg e, if_neg (fun e2 => e ((zpk_inj h hl (hw w List.mem_cons_self)).mp e2.symm).symm)]
theorem zfw_no {l : List Int32} : ∀ (ws : List (List Int32)) (i : Nat), i + ws.length < 2 ^ 31 → (zfw l ws i = -1 ↔ l ∉ ws)
  | [], _, _ => ⟨fun _ => List.not_mem_nil, fun _ => rfl⟩
  | w :: ws, i, hi => by
    have hi : i + (ws.length + 1) < 2 ^ 31 := hi
    show (if w = l then nI i else zfw l ws (i + 1)) = -1 ↔ _
    by_cases e : w = l
    · rw [if_pos e]
      refine ⟨fun h => ?_, fun h => absurd (by rw [e]; exact List.mem_cons_self) h⟩
      have := nI_pos' (n := i) (by omega)
      rw [h] at this
      exact absurd this (by decide)
    · rw [if_neg e, zfw_no ws (i + 1) (by omega), List.mem_cons]
      exact ⟨fun h h2 => h2.elim (fun h3 => e h3.symm) h, fun h h2 => h (Or.inr h2)⟩
end ZW
