/-! ===== the law: both answer alike ===== -/
section ZLW
theorem zl_ite {c : Prop} [Decidable c] {a b r : Option Int32} (h1 : c → a = r) (h2 : ¬ c → b = r) : (if c then a else b) = r := by
  by_cases h : c
  · rw [if_pos h]; exact h1 h
  · rw [if_neg h]; exact h2 h
theorem zl_if {c : Prop} [Decidable c] {a b r : Option Int32} (h : c) (g : a = r) : (if c then a else b) = r := by rw [if_pos h]; exact g
theorem zl_bd {α : Type} {x : Option α} {a : α} {F : α → Option Int32} (h : x = some a) (g : F a = some 1) : x.bind F = some 1 := by rw [h]; exact g
theorem zl_rd1 {xs : Nat → Int32} {Ls y : Nat} {F : Int32 → Option Int32} (hy : y + 3 ≤ Ls) (hL : Ls ≤ 1536) (g : F (xs (y + 1)) = some 1) : (zlet (nI y + (1 : Int32)) fun x4 => if x4 < 0 ∨ Ls ≤ x4.toNatClampNeg then none else zlet (xs x4.toNatClampNeg) F) = some 1 := by
  rw [zlet_eq, nI_1, if_neg (nI_in (by omega) (by omega)), zlet_eq, nI_clamp (by omega)]
  exact g
theorem zl_rd2 {xs : Nat → Int32} {Ls y : Nat} {F : Int32 → Option Int32} (hy : y + 3 ≤ Ls) (hL : Ls ≤ 1536) (g : F (xs (y + 2)) = some 1) : (zlet (nI y + (2 : Int32)) fun x4 => if x4 < 0 ∨ Ls ≤ x4.toNatClampNeg then none else zlet (xs x4.toNatClampNeg) F) = some 1 := by
  rw [zlet_eq, show nI y + (2 : Int32) = nI (y + 2) from nI_add y 2, if_neg (nI_in (by omega) (by omega)), zlet_eq, nI_clamp (by omega)]
  exact g
theorem zl_eq {α : Type} [DecidableEq α] {a b : α} {K : Option Int32} (h : a = b) (g : K = some 1) : (if a = b then K else some 0) = some 1 := by rw [if_pos h]; exact g
theorem zl_cmp (x : Int64) : lg_cmp x x = 0 := by
  unfold lg_cmp
  rw [if_neg (Int64.lt_irrefl (a := x)), if_pos rfl]
theorem zl_tail {c val : Int32} {o' : Nat → Int64} {K : Option Int32} (ho : c = 0 → o' 0 = val.toInt64) (g : K = some 1) : (if c = c then (if c = 0 then (zlet (o' 0) fun x => if (lg_cmp x val.toInt64) = 0 then K else some 0) else K) else some 0) = some 1 := by
  rw [if_pos rfl]
  by_cases h : c = 0
  · rw [if_pos h, zlet_eq, ho h, zl_cmp, if_pos rfl]; exact g
  · rw [if_neg h]; exact g
theorem zl_o3 {β : Type} {c val : Int32} {v' : β} (hc : c = 0 ∨ c = 1 ∨ c = 2) (o : Nat → Int64) : ∃ o' : Nat → Int64, (if c = 0 then some ((0 : Int32), v', vp_updL o 0 val.toInt64) else if c = 1 then some (1, v', o) else if c = 2 then some (2, v', o) else none) = some (c, v', o') ∧ (c = 0 → o' 0 = val.toInt64) := by
  rcases hc with rfl | rfl | rfl
  · exact ⟨_, if_pos rfl, fun _ => rfl⟩
  · exact ⟨o, (if_neg (by decide)).trans (if_pos rfl), fun h => absurd h (by decide)⟩
  · exact ⟨o, (if_neg (by decide)).trans ((if_neg (by decide)).trans (if_pos rfl)), fun h => absurd h (by decide)⟩
theorem zl_o2 {β : Type} {c val : Int32} {v' : β} (hc : c = 0 ∨ c = 1) (o : Nat → Int64) : ∃ o' : Nat → Int64, (if c = 0 then some ((0 : Int32), v', vp_updL o 0 val.toInt64) else if c = 1 then some (1, v', o) else none) = some (c, v', o') ∧ (c = 0 → o' 0 = val.toInt64) := by
  rcases hc with rfl | rfl
  · exact ⟨_, if_pos rfl, fun _ => rfl⟩
  · exact ⟨o, (if_neg (by decide)).trans (if_pos rfl), fun h => absurd h (by decide)⟩
theorem zl_p3 {c val : Int32} (hc : c = 0 ∨ c = 1 ∨ c = 2) (o : Nat → Int64) : ∃ o' : Nat → Int64, (if c = 0 then some ((0 : Int32), vp_updL o 0 val.toInt64) else if c = 1 then some (1, o) else if c = 2 then some (2, o) else none) = some (c, o') ∧ (c = 0 → o' 0 = val.toInt64) := by
  rcases hc with rfl | rfl | rfl
  · exact ⟨_, if_pos rfl, fun _ => rfl⟩
  · exact ⟨o, (if_neg (by decide)).trans (if_pos rfl), fun h => absurd h (by decide)⟩
  · exact ⟨o, (if_neg (by decide)).trans ((if_neg (by decide)).trans (if_pos rfl)), fun h => absurd h (by decide)⟩
theorem zl_p2 {c val : Int32} (hc : c = 0 ∨ c = 1) (o : Nat → Int64) : ∃ o' : Nat → Int64, (if c = 0 then some ((0 : Int32), vp_updL o 0 val.toInt64) else if c = 1 then some (1, o) else none) = some (c, o') ∧ (c = 0 → o' 0 = val.toInt64) := by
  rcases hc with rfl | rfl
  · exact ⟨_, if_pos rfl, fun _ => rfl⟩
  · exact ⟨o, (if_neg (by decide)).trans (if_pos rfl), fun h => absurd h (by decide)⟩
theorem hc_idx (a : Int32) (l : List Int32) : (zidx a l).1 = 0 ∨ (zidx a l).1 = 1 := by
  unfold zidx
  cases zin a l.length
  · exact Or.inr rfl
  · exact Or.inl rfl
theorem hc_app (A : zAb) (c : Int32) : (aApp A c).1 = 0 ∨ (aApp A c).1 = 1 ∨ (aApp A c).1 = 2 := by
  unfold aApp
  split
  · exact Or.inr (Or.inl rfl)
  split
  · exact Or.inl rfl
  · exact Or.inr (Or.inr rfl)
theorem hc_snd (A : zAb) : (aSnd A).1 = 0 ∨ (aSnd A).1 = 1 := by
  unfold aSnd
  split
  · exact Or.inr rfl
  split
  · exact Or.inl rfl
  · exact Or.inr rfl
theorem hc_flt (A : zAb) (a f : Int32) : (aFlt A a f).1 = 0 ∨ (aFlt A a f).1 = 1 ∨ (aFlt A a f).1 = 2 := by
  cases e : zin a 200 with
  | none => rw [aFlt_n e]; exact Or.inr (Or.inl rfl)
  | some i =>
    by_cases hf : f < -1 ∨ 5 < f
    · rw [aFlt_b e hf]; exact Or.inr (Or.inr rfl)
    · rw [aFlt_s e hf]; exact Or.inl rfl
theorem hc_lrn (A : zAb) : (aLrn A).1 = 0 ∨ (aLrn A).1 = 1 ∨ (aLrn A).1 = 2 := by
  unfold aLrn
  split
  · exact Or.inr (Or.inl rfl)
  split
  · exact Or.inl rfl
  split
  · exact Or.inl rfl
  · exact Or.inr (Or.inr rfl)
theorem hc_fgt (A : zAb) (a : Int32) : (aFgt A a).1 = 0 ∨ (aFgt A a).1 = 1 := by
  cases e : zin a A.2.1.2.2.2.2.1.length with
  | none => rw [aFgt_n e]; exact Or.inr rfl
  | some i => rw [aFgt_s e]; exact Or.inl rfl
theorem hc_und (A : zAb) : (aUnd A).1 = 0 ∨ (aUnd A).1 = 1 := by
  rcases zlast (H := A.2.2) with hn | ⟨H0, S, hn⟩
  · rw [aUnd_n hn]; exact Or.inr rfl
  · rw [aUnd_s hn]; exact Or.inl rfl
theorem hc_use (A : zAb) (a : Int32) : (aUse A a).1 = 0 ∨ (aUse A a).1 = 1 := by
  unfold aUse
  cases zin a A.2.1.2.2.2.2.1.length
  · exact Or.inr rfl
  · exact Or.inl rfl
theorem hc_let (A : zAb) (a j : Int32) : (aLet A a j).1 = 0 ∨ (aLet A a j).1 = 1 := by
  unfold aLet
  cases zin a A.2.1.2.2.2.2.1.length
  · exact Or.inr rfl
  · cases zin j 6
    · exact Or.inr rfl
    · exact Or.inl rfl
theorem hc_dwt (A : zAb) (a c : Int32) : (aDwt A a c).1 = 0 ∨ (aDwt A a c).1 = 1 ∨ (aDwt A a c).1 = 2 := by
  unfold aDwt
  cases zin a (A.2.1.2.1.length + 1)
  · exact Or.inr (Or.inl rfl)
  · by_cases h : c = 30 ∨ c = 31
    · simp only [if_pos h]; exact Or.inl trivial
    · simp only [if_neg h]; exact Or.inr (Or.inr trivial)
theorem zh_append {v v' : zTR} {c val : Int32} (o : Nat → Int64) (a : Int32) (h : zf_X7_append 10000 v a = some (c, val, v')) (hc : c = 0 ∨ c = 1 ∨ c = 2) : ∃ o' : Nat → Int64, zf_L_append 10000 v o a = some (c, v', o') ∧ (c = 0 → o' 0 = val.toInt64) := by
  unfold zf_L_append
  rw [h]
  exact zl_o3 hc o
theorem zh_send {v v' : zTR} {c val : Int32} (o : Nat → Int64) (h : zf_X7_send 10000 v = some (c, val, v')) (hc : c = 0 ∨ c = 1) : ∃ o' : Nat → Int64, zf_L_send 10000 v o = some (c, v', o') ∧ (c = 0 → o' 0 = val.toInt64) := by
  unfold zf_L_send
  rw [h]
  exact zl_o2 hc o
theorem zh_setFault {v v' : zTR} {c val : Int32} (o : Nat → Int64) (a : Int32) (f : Int32) (h : zf_X7_setFault 10000 v a f = some (c, val, v')) (hc : c = 0 ∨ c = 1 ∨ c = 2) : ∃ o' : Nat → Int64, zf_L_setFault 10000 v o a f = some (c, v', o') ∧ (c = 0 → o' 0 = val.toInt64) := by
  unfold zf_L_setFault
  rw [h]
  exact zl_o3 hc o
theorem zh_sentCode {v : zTR} {p : Int32 × Int32} (o : Nat → Int64) (a : Int32) (h : zf_X7_sentCode 10000 v a = some p) (hc : p.1 = 0 ∨ p.1 = 1) : ∃ o' : Nat → Int64, zf_L_sentCode 10000 v o a = some (p.1, o') ∧ (p.1 = 0 → o' 0 = p.2.toInt64) := by
  unfold zf_L_sentCode
  rw [h]
  exact zl_p2 hc o
theorem zh_receivedCode {v : zTR} {p : Int32 × Int32} (o : Nat → Int64) (a : Int32) (h : zf_X7_receivedCode 10000 v a = some p) (hc : p.1 = 0 ∨ p.1 = 1) : ∃ o' : Nat → Int64, zf_L_receivedCode 10000 v o a = some (p.1, o') ∧ (p.1 = 0 → o' 0 = p.2.toInt64) := by
  unfold zf_L_receivedCode
  rw [h]
  exact zl_p2 hc o
theorem zh_learn {v v' : zTR} {c val : Int32} (o : Nat → Int64) (h : zf_X7_learn 10000 v = some (c, val, v')) (hc : c = 0 ∨ c = 1 ∨ c = 2) : ∃ o' : Nat → Int64, zf_L_learn 10000 v o = some (c, v', o') ∧ (c = 0 → o' 0 = val.toInt64) := by
  unfold zf_L_learn
  rw [h]
  exact zl_o3 hc o
theorem zh_forget {v v' : zTR} {c val : Int32} (o : Nat → Int64) (a : Int32) (h : zf_X7_forget 10000 v a = some (c, val, v')) (hc : c = 0 ∨ c = 1) : ∃ o' : Nat → Int64, zf_L_forget 10000 v o a = some (c, v', o') ∧ (c = 0 → o' 0 = val.toInt64) := by
  unfold zf_L_forget
  rw [h]
  exact zl_o2 hc o
theorem zh_wordLetter {v : zTR} {p : Int32 × Int32} (o : Nat → Int64) (a : Int32) (j : Int32) (h : zf_X7_wordLetter 10000 v a j = some p) (hc : p.1 = 0 ∨ p.1 = 1) : ∃ o' : Nat → Int64, zf_L_wordLetter 10000 v o a j = some (p.1, o') ∧ (p.1 = 0 → o' 0 = p.2.toInt64) := by
  unfold zf_L_wordLetter
  rw [h]
  exact zl_p2 hc o
theorem zh_uses {v : zTR} {p : Int32 × Int32} (o : Nat → Int64) (a : Int32) (h : zf_X7_uses 10000 v a = some p) (hc : p.1 = 0 ∨ p.1 = 1) : ∃ o' : Nat → Int64, zf_L_uses 10000 v o a = some (p.1, o') ∧ (p.1 = 0 → o' 0 = p.2.toInt64) := by
  unfold zf_L_uses
  rw [h]
  exact zl_p2 hc o
theorem zh_printed {v : zTR} {p : Int32 × Int32} (o : Nat → Int64) (a : Int32) (h : zf_X7_printed 10000 v a = some p) (hc : p.1 = 0 ∨ p.1 = 1) : ∃ o' : Nat → Int64, zf_L_printed 10000 v o a = some (p.1, o') ∧ (p.1 = 0 → o' 0 = p.2.toInt64) := by
  unfold zf_L_printed
  rw [h]
  exact zl_p2 hc o
theorem zh_segmentLength {v : zTR} {p : Int32 × Int32} (o : Nat → Int64) (a : Int32) (h : zf_X7_segmentLength 10000 v a = some p) (hc : p.1 = 0 ∨ p.1 = 1) : ∃ o' : Nat → Int64, zf_L_segmentLength 10000 v o a = some (p.1, o') ∧ (p.1 = 0 → o' 0 = p.2.toInt64) := by
  unfold zf_L_segmentLength
  rw [h]
  exact zl_p2 hc o
theorem zh_segmentKind {v : zTR} {p : Int32 × Int32} (o : Nat → Int64) (a : Int32) (h : zf_X7_segmentKind 10000 v a = some p) (hc : p.1 = 0 ∨ p.1 = 1) : ∃ o' : Nat → Int64, zf_L_segmentKind 10000 v o a = some (p.1, o') ∧ (p.1 = 0 → o' 0 = p.2.toInt64) := by
  unfold zf_L_segmentKind
  rw [h]
  exact zl_p2 hc o
theorem zh_doubtfulWith {v : zTR} {p : Int32 × Int32} (o : Nat → Int64) (a : Int32) (j : Int32) (h : zf_X7_doubtfulWith 10000 v a j = some p) (hc : p.1 = 0 ∨ p.1 = 1 ∨ p.1 = 2) : ∃ o' : Nat → Int64, zf_L_doubtfulWith 10000 v o a j = some (p.1, o') ∧ (p.1 = 0 → o' 0 = p.2.toInt64) := by
  unfold zf_L_doubtfulWith
  rw [h]
  exact zl_p3 hc o
theorem zh_undo {v v' : zTR} {c val : Int32} (o : Nat → Int64) (h : zf_X7_undo 10000 v = some (c, val, v')) (hc : c = 0 ∨ c = 1) : ∃ o' : Nat → Int64, zf_L_undo 10000 v o = some (c, v', o') ∧ (c = 0 → o' 0 = val.toInt64) := by
  unfold zf_L_undo
  rw [h]
  exact zl_o2 hc o
end ZLW
