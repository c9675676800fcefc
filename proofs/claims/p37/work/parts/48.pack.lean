/-! ===== the pure part: words packed, on ===== -/
section ZW2
theorem znp_inj : ∀ (l l' : List Int32), (∀ c ∈ l, zsg c = true ∧ zcd c) → (∀ c ∈ l', zsg c = true ∧ zcd c) → znp l = znp l' → l = l'
  | [], [], _, _, _ => rfl
  | [], c :: cs, _, h, e => by
    have := zsg_pos (h c List.mem_cons_self).1 (h c List.mem_cons_self).2
    have e : 0 = c.toNatClampNeg + 32 * znp cs := e
    omega
  | c :: cs, [], h, _, e => by
    have := zsg_pos (h c List.mem_cons_self).1 (h c List.mem_cons_self).2
    have e : c.toNatClampNeg + 32 * znp cs = 0 := e
    omega
  | c :: cs, d :: ds, h, h', e => by
    obtain ⟨h1, h2⟩ := zcd_nat (h c List.mem_cons_self).2
    obtain ⟨h3, h4⟩ := zcd_nat (h' d List.mem_cons_self).2
    have e : c.toNatClampNeg + 32 * znp cs = d.toNatClampNeg + 32 * znp ds := e
    have e1 : c.toNatClampNeg = d.toNatClampNeg := by omega
    have e2 : znp cs = znp ds := by omega
    rw [h2, h4, e1, znp_inj cs ds (fun x hx => h x (List.mem_cons_of_mem _ hx)) (fun x hx => h' x (List.mem_cons_of_mem _ hx)) e2]
/-- a list of signs, packed, is a word packed just when it is the word -/
theorem zpk_inj {l w : List Int32} (h : ∀ c ∈ l, zsg c = true ∧ zcd c) (hl : 0 < l.length) (hw : zwd w) : zpk l = zpk w ↔ l = w := by
  refine ⟨fun e => ?_, fun e => by rw [e]⟩
  have hw0 : 0 < znp w := by
    obtain ⟨h1, h2, h3⟩ := hw
    cases w with
    | nil => exact absurd h1 (Nat.lt_irrefl _)
    | cons c cs =>
      have := zsg_pos (h3 c List.mem_cons_self).1 (h3 c List.mem_cons_self).2
      show 0 < c.toNatClampNeg + 32 * znp cs
      omega
  rw [zpk_np (fun c hc => (hw.2.2 c hc).2) hw.2.1] at e
  by_cases h6 : l.length ≤ 6
  · rw [zpk_np (fun c hc => (h c hc).2) h6] at e
    exact znp_inj l w h hw.2.2 ((nI_eq (by have := znp_30 (fun c hc => (h c hc).2) h6; omega) (by have := znp_30 (fun c hc => (hw.2.2 c hc).2) hw.2.1; omega)).mp e)
  · unfold zpk at e
    rw [if_neg h6, ← nI_0] at e
    have := (nI_eq (by omega) (by have := znp_30 (fun c hc => (hw.2.2 c hc).2) hw.2.1; omega)).mp e
    omega
/-- the place of a list among words -/
def zfw (l : List Int32) : List (List Int32) → Nat → Int32
  | [], _ => -1
  | w :: ws, i => if w = l then nI i else zfw l ws (i + 1)
theorem zfind_w {l : List Int32} (h : ∀ c ∈ l, zsg c = true ∧ zcd c) (hl : 0 < l.length) : ∀ (ws : List (List Int32)) (i : Nat), (∀ w ∈ ws, zwd w) → zfind (zpk l) (ws.map zpk) i = zfw l ws i
  | [], _, _ => rfl
  | w :: ws, i, hw => by
    show (if zpk w = zpk l then nI i else zfind (zpk l) (ws.map zpk) (i + 1)) = (if w = l then nI i else zfw l ws (i + 1))
    rw [zfind_w h hl ws (i + 1) (fun x hx => hw x (List.mem_cons_of_mem _ hx))]
    by_cases e : w = l
    · rw [if_pos e, if_pos (by rw [e])]
    · rw [if_neg e, if_neg (fun e2 => e ((zpk_inj h hl (hw w List.mem_cons_self)).mp e2.symm).symm)]
theorem zfw_no {l : List Int32} : ∀ (ws : List (List Int32)) (i : Nat), i + ws.length < 2 ^ 31 → (zfw l ws i = -1 ↔ l ∉ ws)
  | [], _, _ => ⟨fun _ => List.not_mem_nil, fun _ => rfl⟩
  | w :: ws, i, hi => by
    have hi : i + (ws.length + 1) < 2 ^ 31 := hi
    show (if w = l then nI i else zfw l ws (i + 1)) = -1 ↔ _
    by_cases e : w = l
    · rw [if_pos e]
      refine ⟨fun h => ?_, fun h => absurd (by rw [e]; exact List.mem_cons_self) h⟩
      have := nI_pos' (n := i) (by omega)
      rw [h] at this
      exact absurd this (by decide)
    · rw [if_neg e, zfw_no ws (i + 1) (by omega), List.mem_cons]
      exact ⟨fun h h2 => h2.elim (fun h3 => e h3.symm) h, fun h h2 => h (Or.inr h2)⟩
end ZW2
