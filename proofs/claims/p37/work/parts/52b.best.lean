/-! ===== the pure part: the class's best repair, segment by segment, is the best of all places ===== -/
section ZBR
/-- places from i on, d of them, before e: the first that leaves no part of the run from a on in doubt -/
def zfc (ws l : List Int32) (a e : Nat) : Nat → Nat → Int32
  | 0, _ => -1
  | d + 1, i => if zdb ws ((l.drop a).take (i - a)) = 0 ∧ zdb ws ((l.drop i).take (e - i)) = 0 then nI i else zfc ws l a e d (i + 1)
theorem zx_fcL {N : Nat} {v w : zRow} {l ws : List Int32} (h : zr N v l) (hw : zr 20 w ws) (h0 : (0 : Int32) ∉ ws) (hN : N < 10000) {a e : Nat} (he : e ≤ l.length) : ∀ (d i n : Nat), i + d = e → a ≤ i → d < n → zf_X1_firstRepairingCut_L5 10000 N w v n (nI a) (nI e) (nI i) = some (zfc ws l a e d i)
  | d, i, 0, _, _, hn => absurd hn (Nat.not_lt_zero _)
  | 0, i, n + 1, hd, ha, hn => by
    have hlt := h.lt
    unfold zf_X1_firstRepairingCut_L5
    rw [if_pos (nI_le (by omega) (by omega))]
    rfl
  | d + 1, i, n + 1, hd, ha, hn => by
    have hlt := h.lt
    have ih := zx_fcL h hw h0 hN (a := a) he d (i + 1) n (by omega) (by omega) (by omega)
    unfold zf_X1_firstRepairingCut_L5 zf_X1_firstRepairingCut_b36 zfc
    rw [if_neg (nI_ge (by omega) (by omega)), zx_isd h hw h0 hN ha (by omega), Option.bind_some]
    by_cases e1 : zdb ws ((l.drop a).take (i - a)) = 0
    · rw [if_pos e1, zx_isd h hw h0 hN (show i ≤ e by omega) he, Option.bind_some]
      by_cases e2 : zdb ws ((l.drop i).take (e - i)) = 0
      · rw [if_pos e2, if_pos ⟨e1, e2⟩]
      · rw [if_neg e2, if_neg (fun q => e2 q.2), zlet_eq, nI_1, ih]
    · rw [if_neg e1, if_neg (fun q => e1 q.1), zlet_eq, nI_1, ih]
theorem zx_fc {N : Nat} {v w : zRow} {l ws : List Int32} (h : zr N v l) (hw : zr 20 w ws) (h0 : (0 : Int32) ∉ ws) (hN : N < 10000) {a r : Nat} (hr : 0 < r) (he : a + r ≤ l.length) : zf_X1_firstRepairingCut 10000 N w v (nI a) (nI (a + r)) = some (zfc ws l a (a + r) (r - 1) (a + 1)) := by
  have hle := h.2.1
  unfold zf_X1_firstRepairingCut
  rw [zlet_eq, nI_1]
  exact zx_fcL h hw h0 hN he (r - 1) (a + 1) 10000 (by omega) (by omega) (by omega)
/-- segments one after the other; k where none of them is repaired -/
def zfs (ws l : List Int32) (k : Int32) : List (Nat × Nat) → Int32
  | [] => k
  | p :: t => if zdb ws ((l.drop p.1).take p.2) = 0 then zfs ws l k t else if zfc ws l p.1 (p.1 + p.2) (p.2 - 1) (p.1 + 1) = -1 then zfs ws l k t else 2 * zfc ws l p.1 (p.1 + p.2) (p.2 - 1) (p.1 + 1)
theorem zfs_app (ws l : List Int32) (k : Int32) (q : List (Nat × Nat)) : ∀ p : List (Nat × Nat), zfs ws l k (p ++ q) = zfs ws l (zfs ws l k q) p
  | [] => rfl
  | x :: t => by
    show (if _ then zfs ws l k (t ++ q) else if _ then zfs ws l k (t ++ q) else _) = (if _ then zfs ws l (zfs ws l k q) t else if _ then zfs ws l (zfs ws l k q) t else _)
    rw [zfs_app ws l k q t]
/-- what segments hold of the codes -/
theorem zsgs_in : ∀ (cs : List Int32) (a r : Nat), ∀ p ∈ zsgs a r cs, 0 < p.2 ∧ p.1 + p.2 ≤ a + r + cs.length := by
  have h1 : ∀ (a r : Nat), ∀ p ∈ zsg1 a r, 0 < p.2 ∧ p.1 + p.2 ≤ a + r := by
    intro a r p hp
    cases r with
    | zero => rw [zsg1_0] at hp; exact absurd hp List.not_mem_nil
    | succ r =>
      rw [zsg1_s] at hp
      rw [List.mem_singleton.mp hp]
      exact ⟨Nat.succ_pos r, Nat.le_refl _⟩
  intro cs
  induction cs with
  | nil => exact h1
  | cons c cs ih =>
    intro a r p hp
    rw [List.length_cons]
    unfold zsgs at hp
    split at hp
    · have := ih a (r + 1) p hp
      omega
    · rcases List.mem_append.mp hp with hp | hp
      · have := h1 a r p hp
        omega
      · have := ih (a + r + 1) 0 p hp
        omega
def zk4 (x : Int32) : Int32 := if x < 4 then 0 else 1
theorem zk4_b : ∀ p q : Bool, zk4 (if q = true then (1 : Int32) else if p = true then 0 + 2 else 1 + 4) = zk4 (if p = true then (0 : Int32) else if q = true then 1 + 2 else 0 + 4) := by decide
theorem zk4_kd (ws seg : List Int32) {s : Int32} (hs : zbit s) : zk4 (zkd ws seg s) = zdb ws seg := by
  show zk4 (zkd ws seg s) = zk4 (zkd ws seg 0)
  rcases hs with rfl | rfl
  · rfl
  · unfold zkd
    rw [if_neg z10, if_pos (show (0 : Int32) = 0 from rfl)]
    exact zk4_b _ _
theorem zsegE_kd (ws : List Int32) {l pre cs : List Int32} : ∀ (run : List Int32) (P : zPr), l = pre ++ (run ++ cs) → zbit P.2.2.2.2.1 → (zsegE ws run P).2.2.1.map zk4 = P.2.2.1.map zk4 ++ (zsg1 pre.length run.length).map (fun p => zdb ws ((l.drop p.1).take p.2)) ∧ (zsegE ws run P).2.1 = P.2.1 ++ (zsg1 pre.length run.length).map (fun p => nI p.2) ∧ zbit (zsegE ws run P).2.2.2.2.1
  | [], P, hl, hs => by
    rw [show ([] : List Int32).length = 0 from rfl, zsg1_0, List.map_nil, List.append_nil, List.map_nil, List.append_nil]
    exact ⟨rfl, rfl, hs⟩
  | c :: run, P, hl, hs => by
    have hd : (l.drop pre.length).take (run.length + 1) = c :: run := by
      rw [hl, List.drop_left]
      show List.take (c :: run).length (c :: run ++ cs) = c :: run
      exact List.take_left' rfl
    rw [show (c :: run).length = run.length + 1 from rfl, zsg1_s]
    refine ⟨?_, rfl, zkd_bit hs⟩
    show (P.2.2.1 ++ [zkd ws (c :: run) P.2.2.2.2.1]).map zk4 = P.2.2.1.map zk4 ++ [zdb ws ((l.drop pre.length).take (run.length + 1))]
    rw [hd, List.map_append, List.map_singleton, zk4_kd ws _ hs]
theorem zdec_kd (ws : List Int32) (u : Int32) {l : List Int32} : ∀ (cs pre run : List Int32) (P : zPr), l = pre ++ (run ++ cs) → zbit P.2.2.2.2.1 → (zdec ws u run cs P).2.2.1.map zk4 = P.2.2.1.map zk4 ++ (zsgs pre.length run.length cs).map (fun p => zdb ws ((l.drop p.1).take p.2)) ∧ (zdec ws u run cs P).2.1 = P.2.1 ++ (zsgs pre.length run.length cs).map (fun p => nI p.2)
  | [], pre, run, P, hl, hs => by
    obtain ⟨h1, h2, -⟩ := zsegE_kd ws run P hl hs
    exact ⟨h1, h2⟩
  | c :: cs, pre, run, P, hl, hs => by
    unfold zdec zsgs
    by_cases hg : zsg c = true
    · rw [if_pos hg, if_pos hg]
      have := zdec_kd ws u (l := l) cs pre (run ++ [c]) P (by rw [hl, List.append_assoc]; rfl) hs
      rw [List.length_append] at this
      exact this
    · rw [if_neg hg, if_neg hg]
      obtain ⟨h1, h2, h3⟩ := zsegE_kd ws run P hl hs
      have := zdec_kd ws u (l := l) cs (pre ++ (run ++ [c])) [] (zobey u c (zsegE ws run P)) (by rw [hl]; simp) (zd_beh h3)
      rw [List.length_append, List.length_append, show ([] : List Int32).length = 0 from rfl, ← Nat.add_assoc] at this
      obtain ⟨k1, k2⟩ := this
      refine ⟨?_, ?_⟩
      · rw [k1]
        show (zsegE ws run P).2.2.1.map zk4 ++ _ = _
        rw [h1, List.map_append, List.append_assoc] <;> rfl
      · rw [k2]
        show (zsegE ws run P).2.1 ++ _ = _
        rw [h2, List.map_append, List.append_assoc] <;> rfl
theorem zPn_kd (S : zNow) : (zPn S).2.2.1.map zk4 = (zsgs 0 0 S.2.1).map (fun p => zdb (S.2.2.2.2.1.map zpk) ((S.2.1.drop p.1).take p.2)) ∧ (zPn S).2.1 = (zsgs 0 0 S.2.1).map (fun p => nI p.2) := by
  have := zdec_kd (S.2.2.2.2.1.map zpk) S.2.2.2.2.2.2 (l := S.2.1) S.2.1 [] [] zP0 rfl (Or.inl rfl)
  exact this
theorem zk4_lt {x : Int32} : x < 4 ↔ zk4 x = 0 := by
  unfold zk4
  by_cases h : x < 4
  · rw [if_pos h]; exact ⟨fun _ => rfl, fun _ => h⟩
  · rw [if_neg h]; exact ⟨fun q => absurd q h, fun q => absurd q z10⟩
theorem zgetM {α : Type} {f : α → Int32} {l : List Int32} {q : List α} (h : l = q.map f) {k : Nat} {p : α} (hp : q[k]? = some p) : l[k]? = some (f p) := by
  rw [h, List.getElem?_map, hp]
  rfl
theorem cq_fsL {v : zTR} {A : zAb} (h : zcR v A) (hk : zok A) : ∀ (t : List (Nat × Nat)) (k n : Nat), (zsgs 0 0 A.2.1.2.1).drop k = t → k + t.length = (zsgs 0 0 A.2.1.2.1).length → t.length < n → zf_X7_bestRepair_L2 10000 v n (nI k) = some (zfs (A.2.1.2.2.2.2.1.map zpk) A.2.1.2.1 (-1) t)
  | t, k, 0, _, _, hn => absurd hn (Nat.not_lt_zero _)
  | [], k, n + 1, hd, hq, hn => by
    have h200 := h.2.2.1.2.2.1.2.1
    have hq : k = (zsgs 0 0 A.2.1.2.1).length := hq
    obtain ⟨hK, -⟩ := zPn_kd A.2.1
    have hKl := congrArg List.length hK
    rw [List.length_map, List.length_map] at hKl
    unfold zf_X7_bestRepair_L2
    rw [cq_segs h, Option.bind_some, if_pos (nI_le (by omega) (by omega))]
    rfl
  | p :: t, k, n + 1, hd, hq, hn => by
    obtain ⟨hK, hL⟩ := zPn_kd A.2.1
    have hKl := congrArg List.length hK
    rw [List.length_map, List.length_map] at hKl
    have hk2 : (zsgs 0 0 A.2.1.2.1)[k]? = some p := by
      have := List.getElem?_drop (xs := zsgs 0 0 A.2.1.2.1) (i := k) (j := 0)
      rw [hd, Nat.add_zero] at this
      exact this.symm
    have hklt : k < (zsgs 0 0 A.2.1.2.1).length := (List.getElem?_eq_some_iff.mp hk2).1
    have hd2 : (zsgs 0 0 A.2.1.2.1).drop (k + 1) = t := by
      have := congrArg (List.drop 1) hd
      rw [List.drop_drop] at this
      exact this
    have h200 := h.2.2.1.2.2.1.2.1
    have hlt := h.2.1.1.2.2.1.lt
    have hle := h.2.1.1.2.2.1.2.1
    obtain ⟨hp0, hp1⟩ := zsgs_in A.2.1.2.1 0 0 p (List.mem_of_getElem? hk2)
    have e1 : (zPn A.2.1).2.2.1[k]? = some ((zPn A.2.1).2.2.1.getD k 0) := by rw [List.getD_eq_getElem?_getD, List.getElem?_eq_getElem (by omega)]; rfl
    have e2 : zk4 ((zPn A.2.1).2.2.1.getD k 0) = zdb (A.2.1.2.2.2.2.1.map zpk) ((A.2.1.2.1.drop p.1).take p.2) := by
      have := zgetM hK hk2
      rw [List.getElem?_map, e1] at this
      exact Option.some.inj this
    have e3 : (zstl (zsgs 0 0 A.2.1.2.1))[k]? = some (nI p.1) := zgetM rfl hk2
    have e4 : (zPn A.2.1).2.1[k]? = some (nI p.2) := zgetM hL hk2
    have ih := cq_fsL h hk t (k + 1) n hd2 (by rw [List.length_cons] at hq; omega) (by rw [List.length_cons] at hn; omega)
    unfold zf_X7_bestRepair_L2 zf_X7_bestRepair_b80 zfs
    rw [cq_segs h, Option.bind_some, if_neg (nI_ge (by omega) (by omega)), zp_at h.2.2.1.2.2.1 e1, Option.bind_some]
    by_cases c1 : zdb (A.2.1.2.2.2.2.1.map zpk) ((A.2.1.2.1.drop p.1).take p.2) = 0
    · rw [if_pos (zk4_lt.mpr (e2.trans c1)), if_pos c1, zlet_eq, nI_1, ih]
    · rw [if_neg (fun q => c1 (e2.symm.trans (zk4_lt.mp q))), if_neg c1, zp_at h.2.2.1.2.2.2.2.2 e3, Option.bind_some, zp_at h.2.2.1.2.1 e4, Option.bind_some, zlet_eq, nI_add,
        zx_fc h.2.1.1.2.2.1 h.2.1.2 hk.2.2.1.w0 (by omega) hp0 (by omega), Option.bind_some]
      by_cases c2 : zfc (A.2.1.2.2.2.2.1.map zpk) A.2.1.2.1 p.1 (p.1 + p.2) (p.2 - 1) (p.1 + 1) = -1
      · rw [if_pos c2, if_pos c2, zlet_eq, nI_1, ih]
      · rw [if_neg c2, if_neg c2, zlet_eq]
/-- the places one after the other: the first whose change is -1 -/
def ztf (cut : Nat → Int32) : Nat → Nat → Int32
  | 0, _ => -1
  | d + 1, i => if cut i = -1 then 2 * nI i else ztf cut d (i + 1)
theorem zbr_m1 {cut : Nat → Int32} (h : ∀ i, -1 ≤ cut i) (b : Int32) : ∀ d i : Nat, zbr cut d i b (-1) = b
  | 0, _ => rfl
  | d + 1, i => by
    unfold zbr
    rw [if_pos (h i)]
    exact zbr_m1 h b d (i + 1)
theorem zbr_tf {cut : Nat → Int32} (h : ∀ i, cut i = -1 ∨ 0 ≤ cut i) : ∀ d i : Nat, zbr cut d i (-1) 0 = ztf cut d i
  | 0, _ => rfl
  | d + 1, i => by
    have hm : ∀ i, -1 ≤ cut i := fun i => by
      rcases h i with e | e
      · rw [e]; decide
      · exact Int32.le_trans (by decide) e
    unfold zbr ztf
    rcases h i with e | e
    · rw [e, if_neg (by decide), if_pos rfl]
      exact zbr_m1 hm _ d (i + 1)
    · rw [if_pos e, if_neg (fun q => by rw [q] at e; exact absurd e (by decide))]
      exact zbr_tf h d (i + 1)
theorem zcut_v (ws l : List Int32) (i : Nat) : zcut ws l i = -1 ∨ 0 ≤ zcut ws l i := by
  unfold zcut
  split
  · exact Or.inr (by decide)
  split
  · exact Or.inr (by decide)
  rcases zdb_01 ws ((l.drop (zst l i)).take (i - zst l i)) with e1 | e1 <;> rcases zdb_01 ws ((l.drop i).take (zen l i - i)) with e2 | e2 <;> rcases zdb_01 ws ((l.drop (zst l i)).take (zen l i - zst l i)) with e3 | e3 <;> rw [e1, e2, e3] <;> decide
/-- inside a run of signs -/
theorem zst_run {l pre run cs : List Int32} (hl : l = pre ++ (run ++ cs)) (hg : ∀ c ∈ run, zsg c = true) (h0 : zst l pre.length = pre.length) : ∀ j : Nat, j ≤ run.length → zst l (pre.length + j) = pre.length
  | 0, _ => h0
  | j + 1, hj => by
    have hx : l.getD (pre.length + j) 0 = run[j] := by
      rw [hl, List.getD_eq_getElem?_getD, List.getElem?_append_right (by omega), Nat.add_sub_cancel_left, List.getElem?_append_left (by omega), List.getElem?_eq_getElem (by omega)]
      rfl
    rw [← Nat.add_assoc, zst, hx, if_pos (hg _ (List.getElem_mem _))]
    exact zst_run hl hg h0 j (by omega)
theorem zen_run {l pre run cs : List Int32} (hl : l = pre ++ (run ++ cs)) (hg : ∀ c ∈ run, zsg c = true) (hcs : cs.takeWhile zsg = []) {j : Nat} (hj : j ≤ run.length) : zen l (pre.length + j) = pre.length + run.length := by
  unfold zen
  have hd : l.drop (pre.length + j) = run.drop j ++ cs := by
    rw [hl, ← List.drop_drop, List.drop_left, List.drop_append_of_le_length hj]
  rw [hd, List.takeWhile_append_of_pos (fun a ha => hg a (List.mem_of_mem_drop ha)), hcs, List.append_nil, List.length_drop]
  omega
theorem nI_m1 {i : Nat} (h : i < 2 ^ 31) : ¬ nI i = -1 := fun e => by
  have := nI_pos' h
  rw [e] at this
  exact absurd this (by decide)
theorem ztf_in {ws l pre run cs : List Int32} (hl : l = pre ++ (run ++ cs)) (hg : ∀ c ∈ run, zsg c = true) (h0 : zst l pre.length = pre.length) (hcs : cs.takeWhile zsg = []) (hlt : l.length < 2 ^ 31) (d : Nat) : ∀ (j i : Nat), 0 < i → i + j = run.length →
    ztf (zcut ws l) (j + 1 + d) (pre.length + i) = if zdb ws ((l.drop pre.length).take run.length) = 0 then ztf (zcut ws l) d (pre.length + run.length + 1) else if zfc ws l pre.length (pre.length + run.length) j (pre.length + i) = -1 then ztf (zcut ws l) d (pre.length + run.length + 1) else 2 * zfc ws l pre.length (pre.length + run.length) j (pre.length + i)
  | 0, i, hi, hij => by
    have hc : zcut ws l (pre.length + i) = 0 := by
      unfold zcut
      rw [zst_run hl hg h0 i (by omega), zen_run hl hg hcs (by omega), if_neg (by omega), if_pos (by omega)]
    rw [show 0 + 1 + d = d + 1 by omega]
    show (if zcut ws l (pre.length + i) = -1 then _ else ztf (zcut ws l) d (pre.length + i + 1)) = _
    rw [hc, if_neg (by decide), show pre.length + i = pre.length + run.length by omega]
    show _ = if _ then _ else if (-1 : Int32) = -1 then _ else _
    rw [if_pos (show (-1 : Int32) = -1 from rfl)]
    split <;> rfl
  | j + 1, i, hi, hij => by
    have hll : l.length = pre.length + (run.length + cs.length) := by rw [hl, List.length_append, List.length_append]
    have ih := ztf_in (ws := ws) hl hg h0 hcs hlt d j (i + 1) (by omega) (by omega)
    have hc : zcut ws l (pre.length + i) = zdb ws ((l.drop pre.length).take i) + zdb ws ((l.drop (pre.length + i)).take (run.length - i)) - zdb ws ((l.drop pre.length).take run.length) := by
      unfold zcut
      rw [zst_run hl hg h0 i (by omega), zen_run hl hg hcs (by omega), if_neg (by omega), if_neg (by omega), show pre.length + i - pre.length = i by omega, show pre.length + run.length - (pre.length + i) = run.length - i by omega, show pre.length + run.length - pre.length = run.length by omega]
    rw [show j + 1 + 1 + d = (j + 1 + d) + 1 by omega]
    show (if zcut ws l (pre.length + i) = -1 then 2 * nI (pre.length + i) else ztf (zcut ws l) (j + 1 + d) (pre.length + i + 1)) = _
    have hf : zfc ws l pre.length (pre.length + run.length) (j + 1) (pre.length + i) = if zdb ws ((l.drop pre.length).take i) = 0 ∧ zdb ws ((l.drop (pre.length + i)).take (run.length - i)) = 0 then nI (pre.length + i) else zfc ws l pre.length (pre.length + run.length) j (pre.length + i + 1) := by
      show (if zdb ws ((l.drop pre.length).take (pre.length + i - pre.length)) = 0 ∧ zdb ws ((l.drop (pre.length + i)).take (pre.length + run.length - (pre.length + i))) = 0 then _ else _) = _
      rw [show pre.length + i - pre.length = i by omega, show pre.length + run.length - (pre.length + i) = run.length - i by omega]
    rw [hf, hc, show pre.length + i + 1 = pre.length + (i + 1) by omega, ih]
    rcases zdb_01 ws ((l.drop pre.length).take run.length) with w | w
    · rw [w, if_pos (show (0 : Int32) = 0 from rfl), if_pos (show (0 : Int32) = 0 from rfl)]
      refine if_neg ?_
      rcases zdb_01 ws ((l.drop pre.length).take i) with e1 | e1 <;> rcases zdb_01 ws ((l.drop (pre.length + i)).take (run.length - i)) with e2 | e2 <;> rw [e1, e2] <;> decide
    · rw [w, if_neg z10, if_neg z10]
      rcases zdb_01 ws ((l.drop pre.length).take i) with e1 | e1
      · rcases zdb_01 ws ((l.drop (pre.length + i)).take (run.length - i)) with e2 | e2
        · rw [e1, e2, if_pos (show (0 : Int32) + 0 - 1 = -1 by decide), if_pos (show (0 : Int32) = 0 ∧ (0 : Int32) = 0 from ⟨rfl, rfl⟩), if_neg (nI_m1 (by omega))]
        · rw [e1, e2, if_neg (show ¬ (0 : Int32) + 1 - 1 = -1 by decide), if_neg (show ¬ ((0 : Int32) = 0 ∧ (1 : Int32) = 0) from fun q => z10 q.2)]
      · rcases zdb_01 ws ((l.drop (pre.length + i)).take (run.length - i)) with e2 | e2
        · rw [e1, e2, if_neg (show ¬ (1 : Int32) + 0 - 1 = -1 by decide), if_neg (show ¬ ((1 : Int32) = 0 ∧ (0 : Int32) = 0) from fun q => z10 q.1)]
        · rw [e1, e2, if_neg (show ¬ (1 : Int32) + 1 - 1 = -1 by decide), if_neg (show ¬ ((1 : Int32) = 0 ∧ (1 : Int32) = 0) from fun q => z10 q.1)]
theorem ztf_run {ws l pre run cs : List Int32} (hl : l = pre ++ (run ++ cs)) (hg : ∀ c ∈ run, zsg c = true) (h0 : zst l pre.length = pre.length) (hcs : cs.takeWhile zsg = []) (hlt : l.length < 2 ^ 31) (d : Nat) :
    ztf (zcut ws l) (run.length + 1 + d) pre.length = zfs ws l (ztf (zcut ws l) d (pre.length + run.length + 1)) (zsg1 pre.length run.length) := by
  have hc : zcut ws l pre.length = 0 := by
    unfold zcut
    rw [if_pos h0]
  rw [show run.length + 1 + d = (run.length + d) + 1 by omega]
  show (if zcut ws l pre.length = -1 then _ else ztf (zcut ws l) (run.length + d) (pre.length + 1)) = _
  rw [hc, if_neg (by decide)]
  rcases Nat.eq_zero_or_pos run.length with hr | hr
  · rw [hr, zsg1_0, Nat.zero_add]
    rfl
  · obtain ⟨r, hr2⟩ : ∃ r, run.length = r + 1 := ⟨run.length - 1, by omega⟩
    have := ztf_in (ws := ws) hl hg h0 hcs hlt d r 1 (by omega) (by omega)
    rw [hr2, zsg1_s]
    rw [hr2] at this
    exact this
theorem zfs_all {ws l : List Int32} (hlt : l.length < 2 ^ 31) : ∀ (cs pre run : List Int32), l = pre ++ (run ++ cs) → (∀ c ∈ run, zsg c = true) → zst l pre.length = pre.length → ztf (zcut ws l) (run.length + cs.length + 1) pre.length = zfs ws l (-1) (zsgs pre.length run.length cs)
  | [], pre, run, hl, hg, h0 => by
    have := ztf_run (ws := ws) hl hg h0 rfl hlt 0
    exact this
  | c :: cs, pre, run, hl, hg, h0 => by
    unfold zsgs
    by_cases hc : zsg c = true
    · rw [if_pos hc]
      have := zfs_all (ws := ws) hlt cs pre (run ++ [c]) (by rw [hl, List.append_assoc]; rfl) (fun x hx => by
        rcases List.mem_append.mp hx with hx | hx
        · exact hg x hx
        · rw [List.mem_singleton.mp hx]; exact hc) h0
      rw [List.length_append] at this
      rw [show run.length + (c :: cs).length + 1 = run.length + [c].length + cs.length + 1 by simp only [List.length_cons, List.length_nil]; omega]
      exact this
    · rw [if_neg hc, zfs_app]
      have h1 := ztf_run (ws := ws) hl hg h0 (List.takeWhile_cons_of_neg hc) hlt (cs.length + 1)
      have hx : l.getD (pre.length + run.length) 0 = c := by
        rw [hl, List.getD_eq_getElem?_getD, List.getElem?_append_right (by omega), Nat.add_sub_cancel_left, List.getElem?_append_right (Nat.le_refl _), Nat.sub_self]
        rfl
      have hst : zst l (pre.length + run.length + 1) = pre.length + run.length + 1 := by
        show (if zsg (l.getD (pre.length + run.length) 0) = true then _ else pre.length + run.length + 1) = _
        rw [hx, if_neg hc]
      have hpl : (pre ++ (run ++ [c])).length = pre.length + run.length + 1 := by rw [List.length_append, List.length_append]; rfl
      have h2 := zfs_all (ws := ws) hlt cs (pre ++ (run ++ [c])) [] (by rw [hl]; simp) (fun x hx => absurd hx List.not_mem_nil) (by rw [hpl]; exact hst)
      rw [hpl, show ([] : List Int32).length = 0 from rfl, Nat.zero_add] at h2
      rw [show run.length + (c :: cs).length + 1 = run.length + 1 + (cs.length + 1) by rw [List.length_cons]; omega, h1, h2]
theorem zbest_s (A : zAb) (hl : A.2.1.2.1.length < 2 ^ 31) : zfs (A.2.1.2.2.2.2.1.map zpk) A.2.1.2.1 (-1) (zsgs 0 0 A.2.1.2.1) = aBest A := by
  unfold aBest
  rw [zbr_tf (zcut_v _ _)]
  have := zfs_all (ws := A.2.1.2.2.2.2.1.map zpk) hl A.2.1.2.1 [] [] rfl (fun x hx => absurd hx List.not_mem_nil) rfl
  rw [show ([] : List Int32).length = 0 from rfl, Nat.zero_add] at this
  exact this.symm
theorem cq_best {v : zTR} {A : zAb} (h : zcR v A) (hk : zok A) : zf_X7_bestRepair 10000 v = some (aBest A) := by
  have h3 := h.2.1.1.2.2.1
  have hle := h3.2.1
  have hq : (zsgs 0 0 A.2.1.2.1).length ≤ 200 := by
    have := h.2.2.1.2.2.2.2.2.2.1
    rw [show (zstl (zsgs 0 0 A.2.1.2.1)).length = (zsgs 0 0 A.2.1.2.1).length from List.length_map _] at this
    exact this
  have := cq_fsL h hk (zsgs 0 0 A.2.1.2.1) 0 10000 rfl (Nat.zero_add _) (by omega)
  rw [nI_0, zbest_s A h3.lt] at this
  exact this
end ZBR
