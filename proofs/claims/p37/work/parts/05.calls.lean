/-! ends and calls over the one judgement -/
section ZGC
variable {G : zgG} {Z : zgZ} {R : Room} {cc : ByteArray} {own : String} {ret : Option FieldType} {nL : Nat} {Ts : List Cond} {k n : Nat} {ws : va_W} {pc : Nat} {L : List (Nat × Value)} {rest : List Value}
theorem zg_iret (X : zgCx G Z cc own ret nL Ts) {σ : Type} {r : σ → Option Value} {w0 : va_W} {w1 : σ → va_W} {mc ms : Nat} (hF : zgFin G Z r w0 w1 mc ms) {ty : FieldType} (hrt : ret = some ty) {v : Int32} (hn : narrow ty (.int v) = .int v) (u : σ) (hr : r u = some (.int v)) (hw : ws = w1 u) (h1 : k ≤ mc) (h2 : n ≤ ms) (hd : decode cc pc = .ok (.ireturn, 1)) : zgGd G Z R k n nL ws pc L [.int v] := by
  subst hrt
  subst hw
  intro H locs ls hP hD hS hl
  obtain ⟨hA, hQ⟩ := hF
  refine W.widen h1 h2 ?_
  rw [hQ]
  rw [hA] at hD hS
  exact W.zret X.1 X.2.1 X.2.2.1 hn (fun t ht hW => ⟨⟨u, by rw [hr], by rw [ht]; exact hP, hD⟩, hS.F ht⟩) hS.2.2 hd X.2.2.2.2.2.2.1
theorem zg_lret (X : zgCx G Z cc own (some .long) nL Ts) {σ : Type} {r : σ → Option Value} {w0 : va_W} {w1 : σ → va_W} {mc ms : Nat} (hF : zgFin G Z r w0 w1 mc ms) {v : Int64} (u : σ) (hr : r u = some (.long v)) (hw : ws = w1 u) (h1 : k ≤ mc) (h2 : n ≤ ms) (hd : decode cc pc = .ok (.lreturn, 1)) : zgGd G Z R k n nL ws pc L [.long v] := by
  subst hw
  intro H locs ls hP hD hS hl
  obtain ⟨hA, hQ⟩ := hF
  refine W.widen h1 h2 ?_
  rw [hQ]
  rw [hA] at hD hS
  exact W.lret X.1 X.2.1 X.2.2.1 (fun t ht hW => ⟨⟨u, by rw [hr], by rw [ht]; exact hP, hD⟩, hS.F ht⟩) hS.2.2 hd X.2.2.2.2.2.2.1
theorem zg_dret (X : zgCx G Z cc own (some .double) nL Ts) {σ : Type} {r : σ → Option Value} {w0 : va_W} {w1 : σ → va_W} {mc ms : Nat} (hF : zgFin G Z r w0 w1 mc ms) {v : UInt64} (u : σ) (hr : r u = some (.double v)) (hw : ws = w1 u) (h1 : k ≤ mc) (h2 : n ≤ ms) (hd : decode cc pc = .ok (.dreturn, 1)) : zgGd G Z R k n nL ws pc L [.double v] := by
  subst hw
  intro H locs ls hP hD hS hl
  obtain ⟨hA, hQ⟩ := hF
  refine W.widen h1 h2 ?_
  rw [hQ]
  rw [hA] at hD hS
  exact W.dret X.1 X.2.1 X.2.2.1 (fun t ht hW => ⟨⟨u, by rw [hr], by rw [ht]; exact hP, hD⟩, hS.F ht⟩) hS.2.2 hd X.2.2.2.2.2.2.1
theorem zg_vret (X : zgCx G Z cc own none nL Ts) {σ : Type} {r : σ → Option Value} {w0 : va_W} {w1 : σ → va_W} {mc ms : Nat} (hF : zgFin G Z r w0 w1 mc ms) (u : σ) (hr : r u = none) (hw : ws = w1 u) (h1 : k ≤ mc) (h2 : n ≤ ms) (hd : decode cc pc = .ok (.return_, 1)) : zgGd G Z R k n nL ws pc L [] := by
  subst hw
  intro H locs ls hP hD hS hl
  obtain ⟨hA, hQ⟩ := hF
  refine W.widen h1 h2 ?_
  rw [hQ]
  rw [hA] at hD hS
  exact W.vret X.1 X.2.1 X.2.2.1 (fun t ht hW => ⟨⟨u, by rw [hr], by rw [ht]; exact hP, hD⟩, hS.F ht⟩) hS.2.2 hd X.2.2.2.2.2.2.1
theorem zg_aret (X : zgCx G Z cc own ret nL Ts) {σ : Type} {r : σ → Option Value} {w0 : va_W} {w1 : σ → va_W} {mc ms : Nat} (hF : zgFin G Z r w0 w1 mc ms) {C : String} (hrt : ret = some (.object C)) {v : Value} (hv : v = .null ∨ ∃ a, v = .ref a) (u : σ) (hr : r u = some v) (hw : ws = w1 u) (h1 : k ≤ mc) (h2 : n ≤ ms) (hd : decode cc pc = .ok (.areturn, 1)) : zgGd G Z R k n nL ws pc L [v] := by
  subst hrt
  subst hw
  intro H locs ls hP hD hS hl
  obtain ⟨hA, hQ⟩ := hF
  refine W.widen h1 h2 ?_
  rw [hQ]
  rw [hA] at hD hS
  exact W.aret X.1 X.2.1 X.2.2.1 (Or.inl ⟨C, rfl⟩) hv (fun t ht hW => ⟨⟨u, by rw [hr], by rw [ht]; exact hP, hD⟩, hS.F ht⟩) hS.2.2 hd X.2.2.2.2.2.2.1
/-- a world with some places' cells put anew -/
def zgat : List Nat → va_W → Nat → Nat × va_E → Nat × va_E
  | i :: is, x :: xs, j, d => bif Nat.beq i j then x else zgat is xs j d
  | [], _, _, d => d
  | _ :: _, [], _, d => d
def zgmp (is : List Nat) (xs : va_W) : Nat → va_W → va_W
  | _, [] => []
  | j, d :: ds => zgat is xs j d :: zgmp is xs (j + 1) ds
def zgput (ws : va_W) (is : List Nat) (xs : va_W) : va_W := zgmp is xs 0 ws
theorem zgmp_len (is : List Nat) (xs : va_W) : ∀ (ws : va_W) (j : Nat), (zgmp is xs j ws).length = ws.length
  | [], _ => rfl
  | d :: ds, j => by
    show (zgmp is xs (j + 1) ds).length + 1 = ds.length + 1
    rw [zgmp_len is xs ds (j + 1)]
theorem zgmp_get (is : List Nat) (xs : va_W) : ∀ (ws : va_W) (k j : Nat), (zgmp is xs k ws)[j]? = (ws[j]?).map (zgat is xs (k + j))
  | [], k, j => by simp [zgmp]
  | d :: ds, k, 0 => by simp [zgmp]
  | d :: ds, k, j + 1 => by
    show (zgat is xs k d :: zgmp is xs (k + 1) ds)[j + 1]? = _
    rw [List.getElem?_cons_succ, List.getElem?_cons_succ, zgmp_get is xs ds (k + 1) j, show k + 1 + j = k + (j + 1) by omega]
theorem zgat_or : ∀ (is : List Nat) (xs : va_W) (j : Nat) (d q : Nat × va_E), zgat is xs j d = q → (∃ i : Nat, is[i]? = some j ∧ xs[i]? = some q) ∨ ((∀ i : Nat, i < xs.length → is[i]? ≠ some j) ∧ d = q)
  | [], xs, j, d, q, h => Or.inr ⟨fun i _ h2 => by simp at h2, by cases xs <;> exact h⟩
  | i :: is, [], j, d, q, h => Or.inr ⟨fun i hi => absurd hi (Nat.not_lt_zero _), h⟩
  | i :: is, x :: xs, j, d, q, h => by
    have h : (bif Nat.beq i j then x else zgat is xs j d) = q := h
    cases hb : Nat.beq i j with
    | true =>
      rw [hb] at h
      have e := Nat.eq_of_beq_eq_true hb
      exact Or.inl ⟨0, by rw [e]; rfl, by rw [← show x = q from h]; rfl⟩
    | false =>
      rw [hb] at h
      have e := Nat.ne_of_beq_eq_false hb
      rcases zgat_or is xs j d q h with ⟨a, h1, h2⟩ | ⟨h1, h2⟩
      · exact Or.inl ⟨a + 1, by simpa using h1, by simpa using h2⟩
      · refine Or.inr ⟨fun a ha => ?_, h2⟩
        cases a with
        | zero => intro h3; exact e (by simpa using h3)
        | succ a => intro h3; exact h1 a (by simpa using ha) (by simpa using h3)
theorem zgput_get (is : List Nat) (xs ws : va_W) (j : Nat) (q : Nat × va_E) (h : (zgput ws is xs)[j]? = some q) : (∃ i : Nat, is[i]? = some j ∧ xs[i]? = some q) ∨ ((∀ i : Nat, i < xs.length → is[i]? ≠ some j) ∧ ws[j]? = some q) := by
  unfold zgput at h
  rw [zgmp_get, Nat.zero_add] at h
  obtain ⟨d, h1, h2⟩ := Option.map_eq_some_iff.mp h
  rcases zgat_or is xs j d q h2 with h3 | ⟨h3, h4⟩
  · exact Or.inl h3
  · exact Or.inr ⟨h3, by rw [h1, h4]⟩
theorem zgput_addr {ws wc w1 : va_W} {is : List Nat} (hC : is.map (fun i => ws[i]?) = wc.map some) (hA : w1.map Prod.fst = wc.map Prod.fst) {j : Nat} {q : Nat × va_E} (h : (zgput ws is w1)[j]? = some q) : ∃ q0, ws[j]? = some q0 ∧ q0.1 = q.1 := by
  rcases zgput_get is w1 ws j q h with ⟨a, h1, h2⟩ | ⟨-, h2⟩
  · have h3 : (is.map (fun i => ws[i]?))[a]? = some ws[j]? := by rw [List.getElem?_map, h1]; rfl
    rw [hC, List.getElem?_map] at h3
    have h4 : (w1.map Prod.fst)[a]? = some q.1 := by rw [List.getElem?_map, h2]; rfl
    rw [hA, List.getElem?_map] at h4
    cases hw : wc[a]? with
    | none => rw [hw] at h4; cases h4
    | some q0 =>
      rw [hw] at h3 h4
      exact ⟨q0, (Option.some.inj h3).symm, Option.some.inj h4⟩
  · exact ⟨q, h2, rfl⟩
theorem zg_fm {α β : Type} (f : α → Option β) : ∀ {is : List α} {wc : List β}, is.map f = wc.map some → is.filterMap f = wc := by
  intro is
  induction is with
  | nil =>
    intro wc h
    cases wc with
    | nil => rfl
    | cons x xs => cases h
  | cons i is ih =>
    intro wc h
    cases wc with
    | nil => cases h
    | cons x xs =>
      rw [List.map_cons, List.map_cons] at h
      injection h with h1 h2
      rw [List.filterMap_cons, h1]
      show x :: is.filterMap f = x :: xs
      rw [ih h2]
theorem zg_putP {D : va_G} {cl : List vw_C} {A : Nat → Prop} {ws wc w1 : va_W} {is : List Nat} {H H1 : Heap} (hP : va_P D cl ws H) (hD : va_D A ws) (hC : is.map (fun i => ws[i]?) = wc.map some) (hA : w1.map Prod.fst = wc.map Prod.fst)
    (hk : ∀ q : Nat, q < H.size → ¬ va_A wc H.size q → H1[q]? = H[q]?) (hP1 : va_P D cl w1 H1) : va_P D cl (zgput ws is w1) H1 ∧ va_D A (zgput ws is w1) := by
  have hlen : w1.length = wc.length := by
    have h := congrArg List.length hA
    simpa using h
  have hlen2 : is.length = wc.length := by
    have h := congrArg List.length hC
    simpa using h
  refine ⟨fun j q hj => ?_, fun i j x y hi hj hxy => ?_, fun j q hj => ?_⟩
  · rcases zgput_get is w1 ws j q hj with ⟨a, h1, h2⟩ | ⟨h1, h2⟩
    · exact hP1 a q h2
    · have hl := (hP j q h2).lt
      refine (hP j q h2).kept (hk q.1 hl fun h => ?_)
      rcases h with ⟨a, e, h⟩ | h
      · have h3 : (is.map (fun i => ws[i]?))[a]? = some (some (q.1, e)) := by rw [hC, List.getElem?_map, h]; rfl
        rw [List.getElem?_map] at h3
        cases hi : is[a]? with
        | none => rw [hi] at h3; cases h3
        | some i =>
          rw [hi] at h3
          have h4 : ws[i]? = some (q.1, e) := Option.some.inj h3
          have h5 := hD.1 i j (q.1, e) q h4 h2 rfl
          subst h5
          exact h1 a (by rw [hlen]; exact (List.getElem?_eq_some_iff.mp h).1) hi
      · omega
  · obtain ⟨x0, h1, h2⟩ := zgput_addr hC hA hi
    obtain ⟨y0, h3, h4⟩ := zgput_addr hC hA hj
    exact hD.1 i j x0 y0 h1 h3 (h2.trans (hxy.trans h4.symm))
  · obtain ⟨q0, h1, h2⟩ := zgput_addr hC hA hj
    rw [← h2]
    exact hD.2 j q0 h1
/-- how a call changes the world: nothing, some cells, or it makes some -/
theorem zg_after (X : zgCx G Z cc own ret nL Ts) {σ : Type} {r : σ → Option Value} {wc : va_W} {w1 : σ → va_W} {a : Array Value} {st0 : List Value} {mc ms : Nat} {H : Heap} {locs : List Loc} {ls : Array Slot}
    (hS : va_S (zZA Z) (zZs Z).heap H locs) (hfree : ∀ q, va_A wc H.size q → zZA Z q)
    (hr : va_Run (zZp Z) G.1 (zZe Z) R (zZs Z) (zZm Z) (zZa Z) (zZb Z) (zZt Z) (zZc Z) H locs k n mc ms (F0 (zZm Z) pc ls st0) rest (zgQc G r wc w1 H.size a) (va_A wc H.size))
    (kk : ∀ (u : σ) (H1 : Heap) (locs1 : List Loc), (∀ q : Nat, q < H.size → ¬ va_A wc H.size q → H1[q]? = H[q]?) → va_P G.2.1 vwCl (w1 u) H1 → va_D (va_A wc H.size) (w1 u) → va_S (zZA Z) (zZs Z).heap H1 locs1 →
      W (zZp Z) G.1 (zZe Z) R (zZs Z) (zZm Z) (zZa Z) (zZb Z) (zZt Z) (zZc Z) H1 locs1 (k + mc) (n + ms) (zZQ Z) (F0 (zZm Z) (pc + 3) ls ((r u).toList ++ rest))) :
    W (zZp Z) G.1 (zZe Z) R (zZs Z) (zZm Z) (zZa Z) (zZb Z) (zZt Z) (zZc Z) H locs k n (zZQ Z) (F0 (zZm Z) pc ls st0) := by
  intro T hT Y
  obtain ⟨v, st₀, t, T', Ls, h0, X', hL, e1, e2, ⟨⟨u, hv, hp, hd⟩, hz, hk⟩, st⟩ := hr T hT Y
  cases hv
  rw [h0] at hz hk
  obtain ⟨t2, a1, b1⟩ := kk u T'.heap (locs ++ Ls) (fun q h1 h2 => by rw [e1]; exact hk q h1 h2) (by rw [e1]; exact hp) hd
    ⟨Nat.le_trans hS.1 (by rw [e1]; exact hz), fun q h1 h2 => by rw [e1, hk q (Nat.lt_of_lt_of_le h1 hS.1) (fun z => h2 (hfree q z))]; exact hS.2.1 q h1 h2, fun q hq => by
      rcases List.mem_append.mp hq with h | h
      · exact hS.2.2 q h
      · exact hfree _ (hL q h)⟩ T' rfl X'
  exact ⟨t2, st t2 a1, b1⟩
theorem zg_pre (X : zgCx G Z cc own ret nL Ts) {wc : va_W} {H : Heap} {locs : List Loc} (is : List Nat) (hn : va_nd is = true) (hC : is.map (fun i => ws[i]?) = wc.map some) (hP : va_P G.2.1 vwCl ws H) (hD : va_D (zZA Z) ws) (hS : va_S (zZA Z) (zZs Z).heap H locs) (as : List Value) :
    ∀ U : State, U.heap = H → (zZs Z).WarmedH U.vm → zgPc G as wc H.size as.toArray U := by
  intro U hU hW
  have hf := va_free (wc := wc) hD hS X.2.2.2.2.2.2.2.2.1 is hC
  refine ⟨rfl, by rw [hU], by rw [hU]; exact hP.sub is (zg_fm _ hC), va_K.moved hW.alike X.2.2.2.2.2.2.2.1, (hD.sub is hn hC).weaken (fun _ _ _ _ => trivial), ?_⟩
  rw [hU]
  exact ((X.2.2.2.2.2.2.2.2.2.kept hS.2.1).warm hW).narrow hf
end ZGC
section ZGD
variable {G : zgG} {Z : zgZ} {R : Room} {cc : ByteArray} {own : String} {ret : Option FieldType} {nL : Nat} {Ts : List Cond} {k n : Nat} {ws : va_W} {pc : Nat} {L : List (Nat × Value)} {rest : List Value}
/-- the frame just behind a call: over a world that may be the old one, or have some cells put anew, or come with new cells -/
def zgRun (G : zgG) (Z : zgZ) (R : Room) (cc : ByteArray) (k n nL : Nat) (ws : va_W) (pc : Nat) (L : List (Nat × Value)) (st0 rest : List Value) {σ : Type} (is : List Nat) (wc : va_W) (r : σ → Option Value) (w1 : σ → va_W) (mc ms : Nat) : Prop :=
  va_nd is = true ∧ is.map (fun i => ws[i]?) = wc.map some ∧ ∀ (H : Heap) (locs : List Loc) (ls : Array Slot), va_P G.2.1 vwCl ws H → va_D (zZA Z) ws → va_S (zZA Z) (zZs Z).heap H locs → lv_has ls nL L → ∃ a : Array Value,
    va_Run (zZp Z) G.1 (zZe Z) R (zZs Z) (zZm Z) (zZa Z) (zZb Z) (zZt Z) (zZc Z) H locs k n mc ms (F0 (zZm Z) pc ls st0) rest (zgQc G r wc w1 H.size a) (va_A wc H.size)
theorem zg_callP (X : zgCx G Z cc own ret nL Ts) {σ : Type} {is : List Nat} {wc : va_W} {r : σ → Option Value} {w1 : σ → va_W} {mc ms : Nat} {st0 : List Value} (hr : zgRun G Z R cc k n nL ws pc L st0 rest is wc r w1 mc ms) (hw : ∀ u, w1 u = wc)
    (K : ∀ u : σ, zgGd G Z R (k + mc) (n + ms) nL ws (pc + 3) L ((r u).toList ++ rest)) : zgGd G Z R k n nL ws pc L st0 := by
  intro H locs ls hP hD hS hl
  obtain ⟨hn, hC, hr⟩ := hr
  obtain ⟨a, hr⟩ := hr H locs ls hP hD hS hl
  have hf := va_free (wc := wc) hD hS X.2.2.2.2.2.2.2.2.1 is hC
  refine zg_after X hS hf hr (fun u H1 locs1 hk hP1 hD1 hS1 => ?_)
  rw [hw u] at hP1
  obtain ⟨q1, q2⟩ := zg_putP hP hD hC rfl hk hP1
  have e : zgput ws is wc = ws := by
    refine List.ext_getElem? fun j => ?_
    have key : ∀ q, (zgput ws is wc)[j]? = some q → ws[j]? = some q := by
      intro q hq
      rcases zgput_get is wc ws j q hq with ⟨b, h1, h2⟩ | ⟨-, h2⟩
      · have h3 : (is.map (fun i => ws[i]?))[b]? = some ws[j]? := by rw [List.getElem?_map, h1]; rfl
        rw [hC, List.getElem?_map, h2] at h3
        exact (Option.some.inj h3).symm
      · exact h2
    have hlen : ∀ (is : List Nat) (xs ws : va_W), (zgput ws is xs).length = ws.length := fun is xs ws => zgmp_len is xs ws 0
    cases h : (zgput ws is wc)[j]? with
    | some q => exact (key q h).symm
    | none =>
      have h1 := List.getElem?_eq_none_iff.mp h
      rw [hlen] at h1
      exact (List.getElem?_eq_none_iff.mpr h1).symm
  rw [e] at q1 q2
  exact K u H1 locs1 ls q1 q2 hS1 hl
theorem zg_callU (X : zgCx G Z cc own ret nL Ts) {σ : Type} {is : List Nat} {wc : va_W} {r : σ → Option Value} {w1 ws2 : σ → va_W} {mc ms : Nat} {st0 : List Value} (hr : zgRun G Z R cc k n nL ws pc L st0 rest is wc r w1 mc ms) (hA : ∀ u, (w1 u).map Prod.fst = wc.map Prod.fst) (hw : ∀ u, zgput ws is (w1 u) = ws2 u)
    (K : ∀ u : σ, zgGd G Z R (k + mc) (n + ms) nL (ws2 u) (pc + 3) L ((r u).toList ++ rest)) : zgGd G Z R k n nL ws pc L st0 := by
  intro H locs ls hP hD hS hl
  obtain ⟨hn, hC, hr⟩ := hr
  obtain ⟨a, hr⟩ := hr H locs ls hP hD hS hl
  have hf := va_free (wc := wc) hD hS X.2.2.2.2.2.2.2.2.1 is hC
  refine zg_after X hS hf hr (fun u H1 locs1 hk hP1 hD1 hS1 => ?_)
  obtain ⟨q1, q2⟩ := zg_putP hP hD hC (hA u) hk hP1
  rw [hw u] at q1 q2
  exact K u H1 locs1 ls q1 q2 hS1 hl
theorem zg_callJ (X : zgCx G Z cc own ret nL Ts) {σ : Type} {is : List Nat} {wc wr : va_W} {r : σ → Option Value} {w1 : σ → va_W} {mc ms : Nat} {st0 : List Value} (hr : zgRun G Z R cc k n nL ws pc L st0 rest is wc r w1 mc ms) (isR : List Nat) (hR : isR.map (fun i => ws[i]?) = wr.map some) (hn : va_nd isR = true) (hdis : ∀ i ∈ isR, i ∉ is)
    (K : ∀ u : σ, zgGd G Z R (k + mc) (n + ms) nL (wr ++ w1 u) (pc + 3) L ((r u).toList ++ rest)) : zgGd G Z R k n nL ws pc L st0 := by
  intro H locs ls hP hD hS hl
  obtain ⟨-, hC, hr⟩ := hr
  obtain ⟨a, hr⟩ := hr H locs ls hP hD hS hl
  have hf := va_free (wc := wc) hD hS X.2.2.2.2.2.2.2.2.1 is hC
  refine zg_after X hS hf hr (fun u H1 locs1 hk hP1 hD1 hS1 => ?_)
  obtain ⟨q1, q2⟩ := va_join hP hD is isR hC hR hn hdis hk hf hP1 hD1
  exact K u H1 locs1 ls q1 q2 hS1 hl
theorem zg_runV (X : zgCx G Z cc own ret nL Ts) {σ : Type} {y : MethodName} {wy wy' : List Cond} {rm : Room} {As : List Value} {b : Nat} {wc : va_W} {r : σ → Option Value} {w1 : σ → va_W} {mc ms maxL index nA ci N : Nat} {bytes : ByteArray} {rt : Option FieldType} {C : String} {T : u_T} {fs : List Value}
    (hM : zgCt G y wy rm (.ref b :: As) wc r w1 mc ms) (hT : GoodIn Ts (wsV own index C y wy)) (hw : wy = Cond.code y bytes maxL rt :: wy') (hd0 : y.cls = C ∧ y.cls ≠ "java/lang/invoke/MethodHandle" ∧ y.cls ≠ "java/lang/invoke/VarHandle" ∧ (parseMethodDescriptor y.desc).map (fun d => d.parameters.length) = some nA) (hrm : rm.cells = mc ∧ rm.slots = ms)
    (hR : rm.frames + 1 ≤ R.frames ∧ 8 + (maxL + 11) + rm.locals ≤ R.locals) (hcl : vwCl[ci]? = some (C, T, N)) (he : wc[0]? = some (b, .inr (ci, fs))) (hlen : As.length = nA) (hcat : (rest.map fun v => v.category).sum ≤ 8) (hf : k + mc ≤ R.cells ∧ n + ms ≤ R.slots) (is : List Nat) (hnd : va_nd is = true) (hC : is.map (fun i => ws[i]?) = wc.map some) {st0 : List Value} (hst : st0 = As.reverse ++ .ref b :: rest) (hd : decode cc pc = .ok (.invokevirtual index, 3)) :
    zgRun G Z R cc k n nL ws pc L st0 rest is wc r w1 mc ms := by
  subst hst
  refine ⟨hnd, hC, fun H locs ls hP hD hS hl => ⟨(Value.ref b :: As).toArray, ?_⟩⟩
  exact va_runV (b := b) (As := As) (rest := rest) ⟨X.1, X.2.1, X.2.2.2.1, X.2.2.2.2.1, X.2.2.2.2.2.1⟩ (hM H.size) (cwV nA X.2.2.2.2.2.1 hT hw hrm.1 hrm.2 hd0 hR) ⟨zgPc_blind, va_recv (q := (C, T, N)) X.2.2.2.2.2.2.2.1 (hP.sub is (zg_fm _ hC)) hcl he, zg_pre X is hnd hC hP hD hS _⟩ rfl hlen hl.1 rfl (lv_room hcat) hd hf
theorem zg_runS (X : zgCx G Z cc own ret nL Ts) {σ : Type} {y : MethodName} {wy wy' : List Cond} {rm : Room} {As : List Value} {wc : va_W} {r : σ → Option Value} {w1 : σ → va_W} {mc ms maxL index nA : Nat} {bytes : ByteArray} {rt : Option FieldType}
    (hM : zgCt G y wy rm As wc r w1 mc ms) (hT : GoodIn Ts (va_wsS own index y wy)) (hw : wy = Cond.code y bytes maxL rt :: wy') (hd0 : y.cls ≠ "java/lang/invoke/MethodHandle" ∧ y.cls ≠ "java/lang/invoke/VarHandle" ∧ (parseMethodDescriptor y.desc).map (fun d => d.parameters.length) = some nA) (hrm : rm.cells = mc ∧ rm.slots = ms)
    (hR : rm.frames + 1 ≤ R.frames ∧ 8 + (maxL + 11) + rm.locals ≤ R.locals) (hlen : As.length = nA) (hcat : (rest.map fun v => v.category).sum ≤ 8) (hf : k + mc ≤ R.cells ∧ n + ms ≤ R.slots) (is : List Nat) (hnd : va_nd is = true) (hC : is.map (fun i => ws[i]?) = wc.map some) {st0 : List Value} (hst : st0 = As.reverse ++ rest) (hd : decode cc pc = .ok (.invokestatic index, 3)) :
    zgRun G Z R cc k n nL ws pc L st0 rest is wc r w1 mc ms := by
  subst hst
  have ok : ∀ w ∈ va_wsS own index y wy, w.before (zZa Z) (zZs Z) = true := fun w h => X.2.2.2.2.2.1 w (hT w h).1
  refine ⟨hnd, hC, fun H locs ls hP hD hS hl => ⟨As.toArray, ?_⟩⟩
  exact va_runS (As := As) (rest := rest) ⟨X.1, X.2.1, X.2.2.2.1, X.2.2.2.2.1, X.2.2.2.2.2.1⟩ (hM H.size) ⟨callB_of nA X.2.2.2.2.2.1 (fun w h => hT w (by unfold va_wsS; exact List.mem_append_right _ h)) hw hrm.1 hrm.2 (ok _ (by simp [va_wsS])) (ok _ (by simp [va_wsS])) hd0 hR, ok _ (by simp [va_wsS])⟩ ⟨zgPc_blind, zg_pre X is hnd hC hP hD hS _⟩ rfl hlen hl.1 rfl (lv_room hcat) hd hf
theorem zg_runI (X : zgCx G Z cc own ret nL Ts) {σ : Type} {y : MethodName} {wy wy' : List Cond} {rm : Room} {As : List Value} {b : Nat} {wc : va_W} {r : σ → Option Value} {w1 : σ → va_W} {mc ms maxL index nA : Nat} {bytes : ByteArray}
    (hM : zgCt G y wy rm (.ref b :: As) wc r w1 mc ms) (hT : GoodIn Ts wy) (hw : wy = Cond.code y bytes maxL none :: wy') (hini : Cond.initialized y.cls ∈ Ts) (hlk : Cond.methodLink own index y ∈ Ts) (hin : Cond.instanceMethod y ∈ Ts) (hd0 : y.cls ≠ "java/lang/invoke/MethodHandle" ∧ y.cls ≠ "java/lang/invoke/VarHandle" ∧ (parseMethodDescriptor y.desc).map (fun d => d.parameters.length) = some nA) (hy : y.name = "<init>") (hrm : rm.cells = mc ∧ rm.slots = ms)
    (hR : rm.frames + 1 ≤ R.frames ∧ 8 + (maxL + 11) + rm.locals ≤ R.locals) (hlen : As.length = nA) (hcat : (rest.map fun v => v.category).sum ≤ 8) (hf : k + mc ≤ R.cells ∧ n + ms ≤ R.slots) (is : List Nat) (hnd : va_nd is = true) (hC : is.map (fun i => ws[i]?) = wc.map some) {st0 : List Value} (hst : st0 = As.reverse ++ .ref b :: rest) (hd : decode cc pc = .ok (.invokespecial index, 3)) :
    zgRun G Z R cc k n nL ws pc L st0 rest is wc r w1 mc ms := by
  subst hst
  refine ⟨hnd, hC, fun H locs ls hP hD hS hl => ⟨(Value.ref b :: As).toArray, ?_⟩⟩
  exact va_runI (b := b) (As := As) (rest := rest) ⟨X.1, X.2.1, X.2.2.2.1, X.2.2.2.2.1, X.2.2.2.2.2.1⟩ (hM H.size) (cwI nA X.2.2.2.2.2.1 hT hw hrm.1 hrm.2 (X.2.2.2.2.2.1 _ hini) (X.2.2.2.2.2.1 _ hlk) (X.2.2.2.2.2.1 _ hin) hy hd0 hR) ⟨zgPc_blind, zg_pre X is hnd hC hP hD hS _⟩ rfl hlen hl.1 rfl (lv_room hcat) hd hf
theorem zg_runIN (X : zgCx G Z cc own ret nL Ts) {σ : Type} {y : MethodName} {wy wy' : List Cond} {rm : Room} {As : List Value} {b : Nat} {wc : va_W} {r : σ → Option Value} {w1 : σ → va_W} {mc ms maxL index nA : Nat} {bytes : ByteArray} {host : String}
    (hM : zgCt G y wy rm (.ref b :: As) wc r w1 mc ms) (hT : GoodIn Ts wy) (hw : wy = Cond.code y bytes maxL none :: wy') (hini : Cond.initialized y.cls ∈ Ts) (hlk : (own, index, y, host) ∈ zgNM) (hin : Cond.instanceMethod y ∈ Ts) (hd0 : y.cls ≠ "java/lang/invoke/MethodHandle" ∧ y.cls ≠ "java/lang/invoke/VarHandle" ∧ (parseMethodDescriptor y.desc).map (fun d => d.parameters.length) = some nA) (hy : y.name = "<init>") (hrm : rm.cells = mc ∧ rm.slots = ms)
    (hR : rm.frames + 1 ≤ R.frames ∧ 8 + (maxL + 11) + rm.locals ≤ R.locals) (hlen : As.length = nA) (hcat : (rest.map fun v => v.category).sum ≤ 8) (hf : k + mc ≤ R.cells ∧ n + ms ≤ R.slots) (is : List Nat) (hnd : va_nd is = true) (hC : is.map (fun i => ws[i]?) = wc.map some) {st0 : List Value} (hst : st0 = As.reverse ++ .ref b :: rest) (hd : decode cc pc = .ok (.invokespecial index, 3)) :
    zgRun G Z R cc k n nL ws pc L st0 rest is wc r w1 mc ms := by
  subst hst
  refine ⟨hnd, hC, fun H locs ls hP hD hS hl => ⟨(Value.ref b :: As).toArray, ?_⟩⟩
  exact va_runIN (b := b) (As := As) (rest := rest) ⟨X.1, X.2.1, X.2.2.2.1, X.2.2.2.2.1, X.2.2.2.2.2.1⟩ (hM H.size) ⟨va_cnB nA X.2.2.2.2.2.1 hT hw hrm.1 hrm.2 (X.ex.nm _ hlk) (X.2.2.2.2.2.1 _ hini) hd0 hR, hy, X.2.2.2.2.2.1 _ hin⟩ ⟨zgPc_blind, zg_pre X is hnd hC hP hD hS _⟩ rfl hlen hl.1 rfl (lv_room hcat) hd hf
end ZGD
